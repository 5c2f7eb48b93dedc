/** The walk's parts with their pages, marks and elements, as it is now. */
public final class Promise07AtTest {
    public static void main(String[] args) {
        Expect expect = new Expect();
        StructureRows rows = new StructureRows();
        rows.element(0, 1);
        rows.element(1, 3);
        rows.element(0, 3);
        rows.content(3, 9, 19);
        rows.content(1, 2, 5);
        rows.content(2, 0, 7);
        rows.content(0, 4, 0);
        rows.element(1, 12);
        rows.content(4, 5, 5);
        rows.content(1, 2, 4);
        expect.walk("at first", rows, Expect.row(0, 7, 2), Expect.row(2, 5, 1), Expect.row(2, 4, 1),
                Expect.row(9, 19, 3), Expect.row(4, 0, 0));

        // No call of walk() between a change and at().
        rows.element(2, 11);
        rows.content(5, 6, 6);
        expect.is("at(1, 2)", rows.at(1, 2), 5);
        expect.is("at(5, 0)", rows.at(5, 0), 4);

        for (int bad : new int[] {-1, -2, 6, 100, Integer.MIN_VALUE, Integer.MAX_VALUE}) {
            expect.refuses("at(" + bad + ", 0)", Expect.OUT_OF_BOUNDS, () -> rows.at(bad, 0));
        }
        for (int bad : new int[] {-1, 3, Integer.MIN_VALUE, Integer.MAX_VALUE}) {
            expect.refuses("at(0, " + bad + ")", Expect.OUT_OF_BOUNDS, () -> rows.at(0, bad));
        }
        expect.end();
    }
}
