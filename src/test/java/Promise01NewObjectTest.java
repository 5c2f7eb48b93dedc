/** Promise 1: a new object. */
public final class Promise01NewObjectTest {
    private static final Expect EXPECT = new Expect();

    public static void main(String[] args) {
        EXPECT.sentence("The document alone.", Promise01NewObjectTest::theDocumentAlone);
        EXPECT.sentence("StructureRows()", Promise01NewObjectTest::eachForItself);
        EXPECT.end();
    }

    private static void theDocumentAlone() {
        StructureRows rows = new StructureRows();
        EXPECT.refuses("fault ahead of any check", Expect.OUT_OF_BOUNDS, () -> rows.fault(0, 0));
        EXPECT.walk("new", rows);
        EXPECT.outline("new", rows);
        EXPECT.untagged("new", rows);
        // The document without kids is no fault.
        EXPECT.faults("new", rows);
        for (int page = 0; page < 10; page++) {
            for (int mark = 0; mark < 20; mark++) {
                EXPECT.is("parent(" + page + ", " + mark + ")", rows.parent(page, mark), -1);
            }
        }
        for (int bad : Expect.outside(0, 0)) {
            EXPECT.refuses("words(" + bad + ", true)", Expect.NO_ELEMENT, () -> rows.words(bad, true));
        }
        EXPECT.is("heading(0, 1)", rows.heading(0, 1), 0);
        EXPECT.is("words(0, true)", rows.words(0, true), 0);
        EXPECT.is("span(0, 1, 1)", rows.span(0, 1, 1), 11);
        EXPECT.is("shows(0, 0)", rows.shows(0, 0), 1);
        EXPECT.is("the first element", rows.element(0, 1), 1);
    }

    private static void eachForItself() {
        StructureRows full = new StructureRows();
        States.full(full);
        StructureRows rows = new StructureRows();
        EXPECT.refuses("another object's element", Expect.NO_ELEMENT, () -> rows.words(1, true));
        EXPECT.refuses("another object's fault", Expect.OUT_OF_BOUNDS, () -> rows.fault(0, 0));
        EXPECT.is("another object's part", rows.parent(0, 0), -1);
        EXPECT.is("another object's mark", rows.shows(0, 0), 1);
        EXPECT.is("another object's map", rows.map(100, 100), 0);
        EXPECT.is("the first element", rows.element(0, 100), 1);
        EXPECT.faultsOfKind("another object's map", rows, 1, Expect.row(1, 0));
        EXPECT.is("the other one's last element", full.heading(59, 1), 6);
    }
}
