/** Promise 7: the walk's parts with their pages, marks and elements, as it is now. */
public final class Promise07AtTest {
    private static final Expect EXPECT = new Expect();

    public static void main(String[] args) {
        EXPECT.sentence("Of part i of the walk: 0 its page, 1 its mark, 2 its element.", Promise07AtTest::parts);
        EXPECT.sentence("Of part i of the walk", Promise07AtTest::indices);
        EXPECT.sentence("IndexOutOfBoundsException.", Promise07AtTest::wrongInputs);
        EXPECT.end();
    }

    private static void parts() {
        StructureRows rows = new StructureRows();
        rows.element(0, 1);
        rows.element(1, 3);
        rows.element(0, 3);
        rows.content(3, 9, 19);
        rows.content(1, 2, 5);
        rows.content(2, 0, 7);
        rows.content(0, 4, 0);
        rows.element(1, 12);
        rows.content(4, 5, 5);
        rows.content(1, 2, 4);
        EXPECT.walk("at first", rows, Expect.row(0, 7, 2), Expect.row(2, 5, 1), Expect.row(2, 4, 1),
                Expect.row(9, 19, 3), Expect.row(4, 0, 0));
        // No call of walk() between a change and at().
        rows.element(2, 11);
        rows.content(5, 6, 6);
        EXPECT.is("at(1, 2)", rows.at(1, 2), 5);
        EXPECT.is("at(5, 0)", rows.at(5, 0), 4);
        Twin.unchanged(EXPECT, "at(0, 0)", States::middle, middle -> middle.at(0, 0));
    }

    /** The first and the last of walks of no, one and all 100 parts. */
    private static void indices() {
        StructureRows rows = new StructureRows();
        EXPECT.refuses("none: at(0, 0)", Expect.OUT_OF_BOUNDS, () -> rows.at(0, 0));
        for (int count = 1; count <= 100; count++) {
            int tag = 200 - count;
            rows.content(0, tag / 20, tag % 20);
            int last = count - 1;
            EXPECT.is("at(" + last + ", 0)", rows.at(last, 0), tag / 20);
            EXPECT.is("at(" + last + ", 1)", rows.at(last, 1), tag % 20);
            EXPECT.refuses("at(" + count + ", 2)", Expect.OUT_OF_BOUNDS, () -> rows.at(last + 1, 2));
        }
        EXPECT.is("at(0, 0)", rows.at(0, 0), 9);
        EXPECT.is("at(0, 1)", rows.at(0, 1), 19);
        EXPECT.refuses("at(-1, 0)", Expect.OUT_OF_BOUNDS, () -> rows.at(-1, 0));
    }

    private static void wrongInputs() {
        StructureRows none = new StructureRows();
        StructureRows rows = new StructureRows();
        rows.content(0, 1, 2);
        for (int bad : Expect.outside(0, 0)) {
            for (int what : new int[] {0, 1, 2}) {
                EXPECT.refuses("none: at(" + bad + ", " + what + ")", Expect.OUT_OF_BOUNDS, () -> none.at(bad, what));
                EXPECT.refuses("one: at(" + bad + ", " + what + ")", Expect.OUT_OF_BOUNDS, () -> rows.at(bad, what));
            }
        }
        for (int bad : Expect.outside(0, 2)) {
            EXPECT.refuses("none: at(0, " + bad + ")", Expect.OUT_OF_BOUNDS, () -> none.at(0, bad));
            EXPECT.refuses("one: at(0, " + bad + ")", Expect.OUT_OF_BOUNDS, () -> rows.at(0, bad));
            EXPECT.refuses("one: at(1, " + bad + ")", Expect.OUT_OF_BOUNDS, () -> rows.at(1, bad));
        }
    }
}
