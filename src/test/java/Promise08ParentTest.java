/** Promise 8: the element that a marked part is in. */
public final class Promise08ParentTest {
    private static final Expect EXPECT = new Expect();

    public static void main(String[] args) {
        EXPECT.sentence("The element that a marked part is in", Promise08ParentTest::elements);
        EXPECT.sentence("-1 for none", Promise08ParentTest::none);
        EXPECT.sentence("IllegalArgumentException.", Promise08ParentTest::wrongInputs);
        EXPECT.end();
    }

    private static void elements() {
        StructureRows rows = new StructureRows();
        rows.element(0, 12);
        rows.element(1, 100);
        rows.content(2, 9, 19);
        rows.content(1, 0, 0);
        rows.content(0, 5, 3);
        rows.content(1, 5, 3);
        EXPECT.is("parent(9, 19), in an artefact", rows.parent(9, 19), 2);
        EXPECT.is("parent(0, 0)", rows.parent(0, 0), 1);
        EXPECT.is("parent(5, 3), told once more", rows.parent(5, 3), 0);
        StructureRows full = new StructureRows();
        States.full(full);
        for (int part = 0; part < 100; part++) {
            EXPECT.is("part " + part, full.parent(part / 20, part % 20), part % 60);
        }
        Twin.unchanged(EXPECT, "parent(9, 19)", States::middle, middle -> middle.parent(9, 19));
    }

    private static void none() {
        StructureRows rows = new StructureRows();
        rows.shows(7, 7);
        rows.content(0, 5, 3);
        EXPECT.is("parent(3, 5)", rows.parent(3, 5), -1);
        EXPECT.is("parent(5, 2)", rows.parent(5, 2), -1);
        EXPECT.is("parent(5, 4)", rows.parent(5, 4), -1);
        EXPECT.is("parent(4, 3)", rows.parent(4, 3), -1);
        EXPECT.is("parent(6, 3)", rows.parent(6, 3), -1);
        EXPECT.is("parent(7, 7), shown alone", rows.parent(7, 7), -1);
        StructureRows full = new StructureRows();
        States.full(full);
        for (int tag = 100; tag < 200; tag++) {
            EXPECT.is("tag " + tag, full.parent(tag / 20, tag % 20), -1);
        }
    }

    private static void wrongInputs() {
        StructureRows rows = new StructureRows();
        for (int bad : Expect.outside(0, 9)) {
            EXPECT.refuses("parent(" + bad + ", 0)", Expect.BAD_ARGUMENT, () -> rows.parent(bad, 0));
            EXPECT.refuses("parent(" + bad + ", 19)", Expect.BAD_ARGUMENT, () -> rows.parent(bad, 19));
        }
        for (int bad : Expect.outside(0, 19)) {
            EXPECT.refuses("parent(0, " + bad + ")", Expect.BAD_ARGUMENT, () -> rows.parent(0, bad));
            EXPECT.refuses("parent(9, " + bad + ")", Expect.BAD_ARGUMENT, () -> rows.parent(9, bad));
        }
    }
}
