/** The walk counts parts that are shown or not, and passes over artefacts with all in them. */
public final class Promise06WalkTest {
    public static void main(String[] args) {
        Expect expect = new Expect();
        StructureRows rows = new StructureRows();
        rows.content(0, 0, 0);
        rows.element(0, 12);
        rows.content(1, 0, 1);
        rows.element(1, 3);
        rows.content(2, 0, 2);
        rows.element(0, 100);
        rows.content(3, 0, 3);
        rows.element(3, 1);
        rows.content(4, 0, 4);
        rows.content(0, 0, 5);
        expect.is("the artefact is passed over", rows.walk(), 4);
        rows.map(100, 12);
        expect.is("and the mapped one", rows.walk(), 2);
        rows.map(100, 101);
        expect.is("one without a standard is none", rows.walk(), 4);
        rows.shows(0, 0);
        expect.is("what pages show is all one", rows.walk(), 4);
        expect.is("it is the same again", rows.walk(), 4);

        StructureRows last = new StructureRows();
        last.element(0, 3);
        last.content(1, 1, 1);
        last.element(0, 12);
        last.content(2, 1, 2);
        expect.is("an artefact at the end", last.walk(), 1);
        expect.end();
    }
}
