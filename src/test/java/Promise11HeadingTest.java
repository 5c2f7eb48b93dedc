/** Levels are had by any element, and count where it is a heading. */
public final class Promise11HeadingTest {
    public static void main(String[] args) {
        Expect expect = new Expect();
        StructureRows rows = new StructureRows();
        rows.element(0, 100);
        expect.is("heading(1, 6)", rows.heading(1, 6), 0);
        expect.is("heading(1, 1)", rows.heading(1, 1), 6);
        expect.is("heading(1, 2)", rows.heading(1, 2), 1);
        expect.is("heading(0, 3)", rows.heading(0, 3), 0);
        expect.is("heading(0, 3) again", rows.heading(0, 3), 3);
        expect.outline("no heading yet", rows);
        rows.map(100, 2);
        expect.outline("the level that it had", rows, Expect.row(1, 0, 2));
        for (int bad : new int[] {-1, 0, 7, Integer.MIN_VALUE, Integer.MAX_VALUE}) {
            expect.refuses("heading(1, " + bad + ")", Expect.BAD_ARGUMENT, () -> rows.heading(1, bad));
        }
        for (int bad : new int[] {-1, 2, 60, Integer.MIN_VALUE, Integer.MAX_VALUE}) {
            expect.refuses("heading(" + bad + ", 1)", Expect.NO_ELEMENT, () -> rows.heading(bad, 1));
        }
        expect.refuses("heading(2, 0)", Expect.NO_ELEMENT, () -> rows.heading(2, 0));
        expect.is("the level is as it was", rows.heading(1, 4), 2);
        expect.end();
    }
}
