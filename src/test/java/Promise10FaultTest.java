/** Promise 10: faults are those of the latest check. */
public final class Promise10FaultTest {
    private static final Expect EXPECT = new Expect();

    public static void main(String[] args) {
        EXPECT.sentence("Of fault i of the latest check", Promise10FaultTest::latestCheck);
        EXPECT.sentence("0 its kind, 1 its element, 2 its number", Promise10FaultTest::firstAndLast);
        EXPECT.sentence("(0 where none is told)", Promise10FaultTest::noNumber);
        EXPECT.sentence("IndexOutOfBoundsException.", Promise10FaultTest::wrongInputs);
        EXPECT.end();
    }

    private static void latestCheck() {
        StructureRows rows = new StructureRows();
        rows.element(0, 2);
        EXPECT.refuses("ahead of any check", Expect.OUT_OF_BOUNDS, () -> rows.fault(0, 0));
        rows.heading(1, 5);
        EXPECT.is("check()", rows.check(), 2);
        rows.heading(1, 1);
        rows.content(1, 0, 0);
        rows.element(0, 100);
        EXPECT.is("fault(0, 0) is of the latest check", rows.fault(0, 0), 3);
        EXPECT.is("fault(0, 1)", rows.fault(0, 1), 1);
        EXPECT.is("fault(0, 2)", rows.fault(0, 2), 5);
        EXPECT.is("fault(1, 0)", rows.fault(1, 0), 7);
        EXPECT.is("fault(1, 2)", rows.fault(1, 2), 0);
        EXPECT.refuses("fault(2, 0)", Expect.OUT_OF_BOUNDS, () -> rows.fault(2, 0));
        EXPECT.faults("a new check", rows, Expect.row(1, 2, 0), Expect.row(7, 2, 0));
        rows.map(100, 10);
        rows.words(2, true);
        EXPECT.faults("none are left", rows);
        EXPECT.refuses("fault(0, 0)", Expect.OUT_OF_BOUNDS, () -> rows.fault(0, 0));
        rows.words(2, false);
        EXPECT.refuses("a fault that no check has found yet", Expect.OUT_OF_BOUNDS, () -> rows.fault(0, 0));
        EXPECT.faults("it has now", rows, Expect.row(6, 2, 0));
        // No other call that gathers something may touch them.
        rows.walk();
        rows.shows(3, 3);
        rows.untagged(-1);
        rows.outline(-1, 0);
        EXPECT.is("fault(0, 0) behind other calls", rows.fault(0, 0), 6);
        EXPECT.refuses("fault(1, 0) behind other calls", Expect.OUT_OF_BOUNDS, () -> rows.fault(1, 0));
        Twin.unchanged(EXPECT, "fault(0, 0)", States::middle, middle -> middle.fault(0, 0));
    }

    private static void firstAndLast() {
        StructureRows rows = new StructureRows();
        for (int shown = 0; shown < 200; shown++) {
            rows.shows(shown / 20, shown % 20);
        }
        rows.element(0, 2);
        EXPECT.is("check()", rows.check(), 202);
        EXPECT.is("fault(0, 0)", rows.fault(0, 0), 2);
        EXPECT.is("fault(0, 1)", rows.fault(0, 1), 1);
        EXPECT.is("fault(0, 2)", rows.fault(0, 2), 0);
        EXPECT.is("fault(1, 0)", rows.fault(1, 0), 7);
        EXPECT.is("fault(2, 0)", rows.fault(2, 0), 9);
        EXPECT.is("fault(2, 1)", rows.fault(2, 1), -1);
        EXPECT.is("fault(2, 2)", rows.fault(2, 2), 0);
        EXPECT.is("fault(201, 0)", rows.fault(201, 0), 9);
        EXPECT.is("fault(201, 1)", rows.fault(201, 1), -1);
        EXPECT.is("fault(201, 2)", rows.fault(201, 2), 199);
        EXPECT.refuses("fault(202, 0)", Expect.OUT_OF_BOUNDS, () -> rows.fault(202, 0));
        EXPECT.refuses("fault(-1, 0)", Expect.OUT_OF_BOUNDS, () -> rows.fault(-1, 0));
    }

    /** Levels, words and spans of the elements with faults must not be taken for their numbers. */
    private static void noNumber() {
        StructureRows rows = new StructureRows();
        rows.heading(rows.element(0, 100), 4);
        rows.span(rows.element(0, 2), 5, 5);
        rows.heading(rows.element(0, 5), 3);
        int table = Tables.add(rows, 0, new int[] {88}, new int[] {11, 22});
        rows.span(table, 7, 7);
        rows.heading(rows.element(0, 10), 6);
        int count = rows.check();
        boolean[] seen = new boolean[11];
        for (int i = 0; i < count; i++) {
            seen[rows.fault(i, 0)] = true;
            EXPECT.is("fault(" + i + ", 2), of kind " + rows.fault(i, 0), rows.fault(i, 2), 0);
        }
        for (int kind : new int[] {1, 2, 4, 5, 6, 7}) {
            EXPECT.is("one of kind " + kind, seen[kind] ? 1 : 0, 1);
        }
    }

    private static void wrongInputs() {
        StructureRows none = new StructureRows();
        StructureRows checked = new StructureRows();
        checked.check();
        StructureRows one = new StructureRows();
        one.shows(2, 2);
        one.check();
        for (int bad : Expect.outside(0, 0)) {
            for (int what : new int[] {0, 1, 2}) {
                String call = "fault(" + bad + ", " + what + ")";
                EXPECT.refuses("no check: " + call, Expect.OUT_OF_BOUNDS, () -> none.fault(bad, what));
                EXPECT.refuses("no fault: " + call, Expect.OUT_OF_BOUNDS, () -> checked.fault(bad, what));
                EXPECT.refuses("one fault: " + call, Expect.OUT_OF_BOUNDS, () -> one.fault(bad, what));
            }
        }
        for (int bad : Expect.outside(0, 2)) {
            EXPECT.refuses("no check: fault(0, " + bad + ")", Expect.OUT_OF_BOUNDS, () -> none.fault(0, bad));
            EXPECT.refuses("no fault: fault(0, " + bad + ")", Expect.OUT_OF_BOUNDS, () -> checked.fault(0, bad));
            EXPECT.refuses("one fault: fault(0, " + bad + ")", Expect.OUT_OF_BOUNDS, () -> one.fault(0, bad));
            EXPECT.refuses("one fault: fault(1, " + bad + ")", Expect.OUT_OF_BOUNDS, () -> one.fault(1, bad));
        }
    }
}
