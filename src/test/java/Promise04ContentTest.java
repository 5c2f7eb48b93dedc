/** Promise 4: marked parts become kids once; told once more they are kept as faults. */
public final class Promise04ContentTest {
    private static final Expect EXPECT = new Expect();

    public static void main(String[] args) {
        EXPECT.sentence("A marked part becomes a kid: 1", Promise04ContentTest::becomesAKid);
        EXPECT.sentence("0, and it does not, when it is in an element already", Promise04ContentTest::onceOnly);
        EXPECT.sentence("that is told once more; 40 such are kept", Promise04ContentTest::fortyRepeatsAreKept);
        EXPECT.sentence("0 comes ahead of UnsupportedOperationException", Promise04ContentTest::zeroWhenFull);
        EXPECT.sentence("NoSuchElementException; IllegalArgumentException", Promise04ContentTest::wrongInputs);
        EXPECT.sentence("UnsupportedOperationException when there are 100", Promise04ContentTest::hundredAtMost);
        EXPECT.end();
    }

    private static void becomesAKid() {
        StructureRows rows = new StructureRows();
        rows.element(0, 12);
        int[][] corners = {{0, 0}, {0, 19}, {9, 0}, {9, 19}};
        for (int i = 0; i < 4; i++) {
            EXPECT.is("a corner", rows.content(i % 2, corners[i][0], corners[i][1]), 1);
            EXPECT.is("its parent", rows.parent(corners[i][0], corners[i][1]), i % 2);
        }
        EXPECT.walk("the document's", rows, Expect.row(0, 0, 0), Expect.row(9, 0, 0));
    }

    private static void onceOnly() {
        StructureRows rows = new StructureRows();
        rows.element(0, 3);
        EXPECT.is("content(1, 9, 19)", rows.content(1, 9, 19), 1);
        EXPECT.is("content(0, 9, 19)", rows.content(0, 9, 19), 0);
        EXPECT.is("content(1, 9, 19)", rows.content(1, 9, 19), 0);
        EXPECT.is("content(0, 0, 0)", rows.content(0, 0, 0), 1);
        EXPECT.is("parent(9, 19)", rows.parent(9, 19), 1);
        EXPECT.walk("no part twice", rows, Expect.row(9, 19, 1), Expect.row(0, 0, 0));
        EXPECT.faults("told once more", rows, Expect.row(8, 0, 199), Expect.row(8, 1, 199));
    }

    private static void fortyRepeatsAreKept() {
        StructureRows rows = new StructureRows();
        rows.content(0, 3, 4);
        rows.content(0, 3, 5);
        rows.element(0, 10);
        rows.words(1, true);
        int[][] due = new int[40][];
        for (int told = 0; told < 40; told++) {
            EXPECT.is("told once more", rows.content(told % 2, 3, 4), 0);
            due[told] = Expect.row(8, told % 2, 64);
        }
        EXPECT.faults("all 40", rows, due);
        EXPECT.is("told a 41st time", rows.content(1, 3, 5), 0);
        EXPECT.faults("the first 40", rows, due);
        // States.full has told 40, so that one more leaves no trace.
        Twin.unchanged(EXPECT, "content(0, 0, 0), a 41st time", States::full, full -> full.content(0, 0, 0));
    }

    private static void zeroWhenFull() {
        StructureRows rows = new StructureRows();
        fill(rows);
        EXPECT.is("content(1, 0, 0)", rows.content(1, 0, 0), 0);
        EXPECT.is("content(0, 4, 19)", rows.content(0, 4, 19), 0);
        EXPECT.is("walk()", rows.walk(), 100);
        EXPECT.faults("full", rows, Expect.row(8, 1, 0), Expect.row(8, 0, 99));
    }

    private static void wrongInputs() {
        StructureRows rows = new StructureRows();
        for (int bad : Expect.outside(0, 0)) {
            EXPECT.refuses("content(" + bad + ", 0, 0)", Expect.NO_ELEMENT, () -> rows.content(bad, 0, 0));
            EXPECT.refuses("content(" + bad + ", 10, 20)", Expect.NO_ELEMENT, () -> rows.content(bad, 10, 20));
        }
        for (int bad : Expect.outside(0, 9)) {
            EXPECT.refuses("content(0, " + bad + ", 0)", Expect.BAD_ARGUMENT, () -> rows.content(0, bad, 0));
        }
        for (int bad : Expect.outside(0, 19)) {
            EXPECT.refuses("content(0, 0, " + bad + ")", Expect.BAD_ARGUMENT, () -> rows.content(0, 0, bad));
        }
        EXPECT.walk("nothing came of them", rows);
        rows.content(0, 0, 0);
        EXPECT.refuses("a part that is in, for no element", Expect.NO_ELEMENT, () -> rows.content(1, 0, 0));
        EXPECT.faults("refused is not told once more", rows);
    }

    private static void hundredAtMost() {
        StructureRows rows = new StructureRows();
        fill(rows);
        EXPECT.refuses("the 101st", Expect.UNSUPPORTED, () -> rows.content(0, 9, 19));
        EXPECT.refuses("full: content(2, 10, 0)", Expect.NO_ELEMENT, () -> rows.content(2, 10, 0));
        EXPECT.refuses("full: content(0, 10, 0)", Expect.BAD_ARGUMENT, () -> rows.content(0, 10, 0));
        EXPECT.refuses("full: content(2, 0, 0), which is in", Expect.NO_ELEMENT, () -> rows.content(2, 0, 0));
        EXPECT.is("parent(9, 19)", rows.parent(9, 19), -1);
        EXPECT.is("walk()", rows.walk(), 100);
        EXPECT.faults("refused is not told once more", rows);
    }

    private static void fill(StructureRows rows) {
        rows.element(0, 3);
        for (int part = 0; part < 100; part++) {
            EXPECT.is("part " + part, rows.content(part % 2, part / 20, part % 20), 1);
        }
    }
}
