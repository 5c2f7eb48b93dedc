/** Faults are those of the latest check. */
public final class Promise10FaultTest {
    public static void main(String[] args) {
        Expect expect = new Expect();
        StructureRows rows = new StructureRows();
        rows.element(0, 2);
        expect.refuses("ahead of any check", Expect.OUT_OF_BOUNDS, () -> rows.fault(0, 0));
        rows.heading(1, 5);
        expect.is("check()", rows.check(), 2);
        rows.heading(1, 1);
        rows.content(1, 0, 0);
        rows.element(0, 100);
        expect.is("fault(0, 0) is of the latest check", rows.fault(0, 0), 3);
        expect.is("fault(0, 1)", rows.fault(0, 1), 1);
        expect.is("fault(0, 2)", rows.fault(0, 2), 5);
        expect.is("fault(1, 0)", rows.fault(1, 0), 7);
        expect.is("fault(1, 2)", rows.fault(1, 2), 0);
        expect.refuses("fault(2, 0)", Expect.OUT_OF_BOUNDS, () -> rows.fault(2, 0));
        expect.faults("a new check", rows, Expect.row(1, 2, 0), Expect.row(7, 2, 0));
        rows.map(100, 10);
        rows.words(2, true);
        expect.faults("none are left", rows);
        expect.refuses("fault(0, 0)", Expect.OUT_OF_BOUNDS, () -> rows.fault(0, 0));

        rows.shows(2, 2);
        rows.check();
        expect.is("no element", rows.fault(0, 1), -1);
        for (int bad : new int[] {-1, 1, Integer.MIN_VALUE, Integer.MAX_VALUE}) {
            expect.refuses("fault(" + bad + ", 0)", Expect.OUT_OF_BOUNDS, () -> rows.fault(bad, 0));
        }
        for (int bad : new int[] {-1, 3, Integer.MIN_VALUE, Integer.MAX_VALUE}) {
            expect.refuses("fault(0, " + bad + ")", Expect.OUT_OF_BOUNDS, () -> rows.fault(0, bad));
        }
        expect.end();
    }
}
