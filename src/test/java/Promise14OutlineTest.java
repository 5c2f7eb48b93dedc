/** The outline: headings of the walk with a level, and how deep they lie. */
public final class Promise14OutlineTest {
    public static void main(String[] args) {
        Expect expect = new Expect();
        StructureRows rows = new StructureRows();
        int[] levels = {3, 5, 4, 4, 6, 2, 6, 1, 2, 3, 2};
        for (int i = 0; i < levels.length; i++) {
            rows.element(0, 2);
            rows.heading(i + 1, levels[i]);
        }
        expect.outline("depths", rows, Expect.row(1, 0, 3), Expect.row(2, 1, 5), Expect.row(3, 1, 4),
                Expect.row(4, 1, 4), Expect.row(5, 2, 6), Expect.row(6, 0, 2), Expect.row(7, 1, 6),
                Expect.row(8, 0, 1), Expect.row(9, 1, 2), Expect.row(10, 2, 3), Expect.row(11, 1, 2));

        StructureRows walked = new StructureRows();
        walked.element(0, 2);
        walked.heading(1, 1);
        walked.element(0, 12);
        walked.element(2, 2);
        walked.heading(3, 2);
        walked.element(0, 2);
        walked.element(0, 100);
        walked.heading(5, 3);
        walked.element(1, 2);
        walked.heading(6, 2);
        expect.outline("of the walk, with a level", walked, Expect.row(1, 0, 1), Expect.row(6, 1, 2));
        walked.map(100, 2);
        expect.outline("a mapped one", walked, Expect.row(1, 0, 1), Expect.row(6, 1, 2), Expect.row(5, 2, 3));

        for (int what : new int[] {-1, 3, Integer.MIN_VALUE, Integer.MAX_VALUE}) {
            expect.is("outline(-1, " + what + ")", walked.outline(-1, what), 3);
            expect.refuses("outline(0, " + what + ")", Expect.OUT_OF_BOUNDS, () -> walked.outline(0, what));
        }
        for (int bad : new int[] {-2, 3, Integer.MIN_VALUE, Integer.MAX_VALUE}) {
            expect.refuses("outline(" + bad + ", 0)", Expect.OUT_OF_BOUNDS, () -> walked.outline(bad, 0));
        }
        expect.end();
    }
}
