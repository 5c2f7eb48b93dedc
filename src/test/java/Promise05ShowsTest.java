/** Promise 5: pages show marks once each, in an order. */
public final class Promise05ShowsTest {
    private static final Expect EXPECT = new Expect();

    public static void main(String[] args) {
        EXPECT.sentence("A page shows a mark, behind those that it shows: how many it shows then",
                Promise05ShowsTest::howMany);
        EXPECT.sentence("0 when it shows it already", Promise05ShowsTest::already);
        EXPECT.sentence("IllegalArgumentException.", Promise05ShowsTest::wrongInputs);
        EXPECT.end();
    }

    private static void howMany() {
        StructureRows rows = new StructureRows();
        int[] due = new int[200];
        for (int count = 1; count <= 20; count++) {
            for (int page = 9; page >= 0; page--) {
                EXPECT.is("shows(" + page + ", " + (20 - count) + ")", rows.shows(page, 20 - count), count);
                due[20 * page + count - 1] = 20 * page + 20 - count;
            }
        }
        EXPECT.untagged("all are shown", rows, due);

        StructureRows parts = new StructureRows();
        parts.content(0, 3, 3);
        EXPECT.is("a part's mark", parts.shows(3, 3), 1);
        EXPECT.is("another mark of its page", parts.shows(3, 0), 2);
        EXPECT.untagged("only that one is in no element", parts, 60);
    }

    private static void already() {
        StructureRows rows = new StructureRows();
        for (int mark = 0; mark < 20; mark++) {
            EXPECT.is("shows(9, " + mark + ")", rows.shows(9, mark), mark + 1);
            EXPECT.is("shows(9, " + mark + ") again", rows.shows(9, mark), 0);
            EXPECT.is("shows(9, 0) again", rows.shows(9, 0), 0);
        }
        EXPECT.is("another page's", rows.shows(8, 0), 1);
        Twin.unchanged(EXPECT, "shows(0, 1) again", States::middle, middle -> middle.shows(0, 1));
        Twin.unchanged(EXPECT, "shows(5, 5) again", States::middle, middle -> middle.shows(5, 5));
        Twin.unchanged(EXPECT, "shows(0, 19) again", States::full, full -> full.shows(0, 19));
    }

    private static void wrongInputs() {
        StructureRows rows = new StructureRows();
        for (int bad : Expect.outside(0, 9)) {
            EXPECT.refuses("shows(" + bad + ", 0)", Expect.BAD_ARGUMENT, () -> rows.shows(bad, 0));
            EXPECT.refuses("shows(" + bad + ", 20)", Expect.BAD_ARGUMENT, () -> rows.shows(bad, 20));
        }
        for (int bad : Expect.outside(0, 19)) {
            EXPECT.refuses("shows(1, " + bad + ")", Expect.BAD_ARGUMENT, () -> rows.shows(1, bad));
        }
        EXPECT.untagged("nothing came of them", rows);
        EXPECT.is("shows(1, 0)", rows.shows(1, 0), 1);
        EXPECT.is("shows(0, 19)", rows.shows(0, 19), 1);
        EXPECT.is("shows(1, 1)", rows.shows(1, 1), 2);
    }
}
