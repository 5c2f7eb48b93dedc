/** Promise 14: the outline: headings of the walk with a level, and how deep they lie. */
public final class Promise14OutlineTest {
    private static final Expect EXPECT = new Expect();

    public static void main(String[] args) {
        EXPECT.sentence("Of heading i of THE OUTLINE: 0 its element, 1 its depth, 2 its level",
                Promise14OutlineTest::headings);
        EXPECT.sentence("i = -1 (any what): how many there are", Promise14OutlineTest::howMany);
        EXPECT.sentence("IndexOutOfBoundsException.", Promise14OutlineTest::wrongInputs);
        EXPECT.end();
    }

    private static void headings() {
        StructureRows rows = new StructureRows();
        int[] levels = {3, 5, 4, 4, 6, 2, 6, 1, 2, 3, 2};
        for (int i = 0; i < levels.length; i++) {
            rows.element(0, 2);
            rows.heading(i + 1, levels[i]);
        }
        EXPECT.outline("depths", rows, Expect.row(1, 0, 3), Expect.row(2, 1, 5), Expect.row(3, 1, 4),
                Expect.row(4, 1, 4), Expect.row(5, 2, 6), Expect.row(6, 0, 2), Expect.row(7, 1, 6),
                Expect.row(8, 0, 1), Expect.row(9, 1, 2), Expect.row(10, 2, 3), Expect.row(11, 1, 2));

        StructureRows walked = new StructureRows();
        walked.element(0, 2);
        walked.heading(1, 1);
        walked.element(0, 12);
        walked.element(2, 2);
        walked.heading(3, 2);
        walked.element(0, 2);
        walked.element(0, 100);
        walked.heading(5, 3);
        walked.element(1, 2);
        walked.heading(6, 2);
        EXPECT.outline("of the walk, with a level", walked, Expect.row(1, 0, 1), Expect.row(6, 1, 2));
        walked.map(100, 2);
        EXPECT.outline("a mapped one", walked, Expect.row(1, 0, 1), Expect.row(6, 1, 2), Expect.row(5, 2, 3));
        Twin.unchanged(EXPECT, "outline(0, 0)", States::middle, middle -> middle.outline(0, 0));
    }

    private static void howMany() {
        StructureRows rows = new StructureRows();
        for (int count = 0; count <= 59; count++) {
            for (int what : new int[] {-1, 0, 3, Integer.MIN_VALUE, Integer.MAX_VALUE}) {
                EXPECT.is("outline(-1, " + what + ")", rows.outline(-1, what), count);
            }
            if (count < 59) {
                rows.heading(rows.element(0, 2), 1);
            }
        }
        Twin.unchanged(EXPECT, "outline(-1, 7)", States::middle, middle -> middle.outline(-1, 7));
    }

    private static void wrongInputs() {
        StructureRows none = new StructureRows();
        StructureRows one = new StructureRows();
        one.heading(one.element(0, 2), 1);
        for (int what : new int[] {0, 1, 2}) {
            EXPECT.refuses("none: outline(0, " + what + ")", Expect.OUT_OF_BOUNDS, () -> none.outline(0, what));
            for (int bad : new int[] {-2, 1, Integer.MIN_VALUE, Integer.MAX_VALUE}) {
                String call = "outline(" + bad + ", " + what + ")";
                EXPECT.refuses("none: " + call, Expect.OUT_OF_BOUNDS, () -> none.outline(bad, what));
                EXPECT.refuses("one: " + call, Expect.OUT_OF_BOUNDS, () -> one.outline(bad, what));
            }
        }
        for (int bad : Expect.outside(0, 2)) {
            EXPECT.refuses("one: outline(0, " + bad + ")", Expect.OUT_OF_BOUNDS, () -> one.outline(0, bad));
            EXPECT.refuses("one: outline(1, " + bad + ")", Expect.OUT_OF_BOUNDS, () -> one.outline(1, bad));
            EXPECT.refuses("one: outline(-2, " + bad + ")", Expect.OUT_OF_BOUNDS, () -> one.outline(-2, bad));
        }
        EXPECT.is("one: outline(0, 0)", one.outline(0, 0), 1);
    }
}
