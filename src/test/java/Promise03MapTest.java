/** Promise 3: own roles are mapped, also through others, and never back to themselves. */
public final class Promise03MapTest {
    private static final Expect EXPECT = new Expect();

    public static void main(String[] args) {
        EXPECT.sentence("An own role is mapped to another role", Promise03MapTest::maps);
        EXPECT.sentence("(again: to that one)", Promise03MapTest::mapsAgain);
        EXPECT.sentence("0, and it is not, when that would lead back to it", Promise03MapTest::neverLeadsBack);
        EXPECT.sentence("when that would lead back to it", Promise03MapTest::byManyMaps);
        EXPECT.sentence("IllegalArgumentException when role is not own, or to is none", Promise03MapTest::wrongRoles);
        EXPECT.end();
    }

    private static void maps() {
        StructureRows rows = new StructureRows();
        for (int role = 100; role <= 119; role++) {
            for (int to = 0; to <= 12; to++) {
                EXPECT.is("map(" + role + ", " + to + ")", rows.map(role, to), 1);
            }
        }
        StructureRows longest = new StructureRows();
        for (int role = 100; role < 119; role++) {
            EXPECT.is("map(" + role + ", next)", longest.map(role, role + 1), 1);
        }
        longest.element(0, 100);
        EXPECT.faultsOfKind("no standard yet", longest, 1, Expect.row(1, 0));
        EXPECT.is("map(119, 100)", longest.map(119, 100), 0);
        EXPECT.is("map(119, 10)", longest.map(119, 10), 1);
        EXPECT.faults("by all 20", longest, Expect.row(6, 1, 0));
    }

    private static void mapsAgain() {
        StructureRows rows = new StructureRows();
        rows.element(0, 100);
        rows.content(1, 0, 0);
        EXPECT.faults("not mapped", rows, Expect.row(1, 1, 0));
        EXPECT.is("map(100, 2)", rows.map(100, 2), 1);
        EXPECT.faults("a heading", rows, Expect.row(2, 1, 0));
        EXPECT.is("map(100, 10)", rows.map(100, 10), 1);
        EXPECT.faults("a figure", rows, Expect.row(6, 1, 0));
        EXPECT.is("map(100, 10) again", rows.map(100, 10), 1);
        EXPECT.faults("still a figure", rows, Expect.row(6, 1, 0));
        EXPECT.is("map(100, 101)", rows.map(100, 101), 1);
        EXPECT.is("map(100, 101) again", rows.map(100, 101), 1);
        EXPECT.faults("by one that is not mapped", rows, Expect.row(1, 1, 0));
        EXPECT.is("map(101, 12)", rows.map(101, 12), 1);
        EXPECT.walk("an artefact", rows);
        EXPECT.is("map(101, 0)", rows.map(101, 0), 1);
        EXPECT.walk("a document", rows, Expect.row(0, 0, 1));
        EXPECT.faults("a document", rows);
        EXPECT.is("an element made behind the map", rows.element(0, 100), 2);
        EXPECT.faults("it has the map's standard", rows, Expect.row(7, 2, 0));
    }

    private static void neverLeadsBack() {
        StructureRows rows = new StructureRows();
        EXPECT.is("map(119, 119)", rows.map(119, 119), 0);
        EXPECT.is("map(110, 111)", rows.map(110, 111), 1);
        EXPECT.is("map(111, 112)", rows.map(111, 112), 1);
        EXPECT.is("map(112, 110)", rows.map(112, 110), 0);
        EXPECT.is("map(112, 111)", rows.map(112, 111), 0);
        EXPECT.is("map(112, 10)", rows.map(112, 10), 1);
        rows.element(0, 112);
        // A map that is refused leaves the one that stands.
        EXPECT.is("map(112, 110) where one stands", rows.map(112, 110), 0);
        EXPECT.faults("still a figure", rows, Expect.row(6, 1, 0));
        EXPECT.is("map(112, 112) where one stands", rows.map(112, 112), 0);
        EXPECT.faults("a figure yet", rows, Expect.row(6, 1, 0));
        EXPECT.is("map(110, 112)", rows.map(110, 112), 1);
        EXPECT.is("map(112, 111) now leads back by it", rows.map(112, 111), 0);
        EXPECT.is("map(111, 3)", rows.map(111, 3), 1);
        EXPECT.is("map(112, 111) no more", rows.map(112, 111), 1);
        Twin.unchanged(EXPECT, "map(101, 100), which leads back", States::middle, twin -> twin.map(101, 100));
        Twin.unchanged(EXPECT, "map(100, 100)", States::middle, twin -> twin.map(100, 100));
        Twin.unchanged(EXPECT, "map(119, 119)", States::fresh, twin -> twin.map(119, 119));
    }

    /** Each role of a chain can't be mapped to those that lead to it, and each can to those it leads to. */
    private static void byManyMaps() {
        for (int length = 1; length <= 20; length++) {
            StructureRows rows = new StructureRows();
            for (int step = 1; step < length; step++) {
                rows.map(120 - step, 119 - step);
            }
            int end = 120 - length;
            for (int role = end; role <= 119; role++) {
                EXPECT.is(length + " roles: map(" + end + ", " + role + ")", rows.map(end, role), 0);
            }
            for (int role = 100; role < end; role++) {
                EXPECT.is(length + " roles: map(" + end + ", " + role + ")", rows.map(end, role), 1);
            }
            EXPECT.is(length + " roles: map(" + end + ", 12)", rows.map(end, 12), 1);
            if (length > 1) {
                EXPECT.is(length + " roles: the first to the last", rows.map(119, end), 1);
            }
        }
    }

    private static void wrongRoles() {
        StructureRows rows = new StructureRows();
        for (int role : new int[] {-1, 0, 3, 12, 13, 99, 120, Integer.MIN_VALUE, Integer.MAX_VALUE}) {
            EXPECT.refuses("map(" + role + ", 3)", Expect.BAD_ARGUMENT, () -> rows.map(role, 3));
            EXPECT.refuses("map(" + role + ", " + role + ")", Expect.BAD_ARGUMENT, () -> rows.map(role, role));
        }
        for (int to : new int[] {-1, 13, 99, 120, Integer.MIN_VALUE, Integer.MAX_VALUE}) {
            EXPECT.refuses("map(100, " + to + ")", Expect.BAD_ARGUMENT, () -> rows.map(100, to));
            EXPECT.refuses("map(119, " + to + ")", Expect.BAD_ARGUMENT, () -> rows.map(119, to));
        }
        EXPECT.is("map(100, 0)", rows.map(100, 0), 1);
        EXPECT.is("map(100, 12)", rows.map(100, 12), 1);
        EXPECT.is("map(119, 100)", rows.map(119, 100), 1);
        EXPECT.is("map(118, 119)", rows.map(118, 119), 1);
    }
}
