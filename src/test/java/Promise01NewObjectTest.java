/** A new object has the document alone. */
public final class Promise01NewObjectTest {
    public static void main(String[] args) {
        Expect expect = new Expect();
        StructureRows rows = new StructureRows();
        expect.refuses("fault ahead of any check", Expect.OUT_OF_BOUNDS, () -> rows.fault(0, 0));
        expect.walk("new", rows);
        expect.outline("new", rows);
        expect.untagged("new", rows);
        // The document without kids is no fault.
        expect.faults("new", rows);
        for (int page = 0; page < 10; page++) {
            for (int mark = 0; mark < 20; mark++) {
                expect.is("parent(" + page + ", " + mark + ")", rows.parent(page, mark), -1);
            }
        }
        expect.is("heading(0, 1)", rows.heading(0, 1), 0);
        expect.is("words(0, true)", rows.words(0, true), 0);
        expect.is("span(0, 1, 1)", rows.span(0, 1, 1), 11);
        expect.refuses("heading(1, 1)", Expect.NO_ELEMENT, () -> rows.heading(1, 1));
        expect.is("the first element", rows.element(0, 1), 1);

        StructureRows other = new StructureRows();
        expect.refuses("another object's element", Expect.NO_ELEMENT, () -> other.words(1, true));
        expect.end();
    }
}
