/** Promise 6: the walk counts parts that are shown or not, and passes over artefacts with all in them. */
public final class Promise06WalkTest {
    private static final Expect EXPECT = new Expect();

    public static void main(String[] args) {
        EXPECT.sentence("How many marked parts the WALK comes to.", Promise06WalkTest::howMany);
        EXPECT.sentence("artefacts, and all in them, are passed over", Promise06WalkTest::artefacts);
        EXPECT.end();
    }

    private static void howMany() {
        StructureRows rows = new StructureRows();
        EXPECT.is("none", rows.walk(), 0);
        for (int part = 1; part <= 100; part++) {
            rows.content(0, part / 20, part % 20);
            EXPECT.is("walk()", rows.walk(), part);
            EXPECT.is("walk() again", rows.walk(), part);
        }
        EXPECT.is("told once more", rows.content(0, 0, 1), 0);
        EXPECT.refuses("one too many", Expect.UNSUPPORTED, () -> rows.content(0, 0, 0));
        EXPECT.is("walk()", rows.walk(), 100);
        rows.shows(9, 9);
        EXPECT.is("what pages show is all one", rows.walk(), 100);
        Twin.unchanged(EXPECT, "walk()", States::middle, StructureRows::walk);
        Twin.unchanged(EXPECT, "walk()", States::full, StructureRows::walk);
    }

    private static void artefacts() {
        StructureRows rows = new StructureRows();
        rows.content(0, 0, 0);
        rows.element(0, 12);
        rows.content(1, 0, 1);
        rows.element(1, 3);
        rows.content(2, 0, 2);
        rows.element(0, 100);
        rows.content(3, 0, 3);
        rows.element(3, 1);
        rows.content(4, 0, 4);
        rows.content(0, 0, 5);
        EXPECT.is("the artefact is passed over", rows.walk(), 4);
        rows.map(100, 12);
        EXPECT.is("and the mapped one", rows.walk(), 2);
        rows.map(100, 101);
        EXPECT.is("one without a standard is none", rows.walk(), 4);

        StructureRows last = new StructureRows();
        last.element(0, 3);
        last.content(1, 1, 1);
        last.element(0, 12);
        last.content(2, 1, 2);
        EXPECT.is("an artefact at the end", last.walk(), 1);
    }
}
