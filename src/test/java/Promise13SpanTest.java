/** Promise 13: spans are had by any element, and count where it is a head or a cell of a row of a table. */
public final class Promise13SpanTest {
    private static final Expect EXPECT = new Expect();

    public static void main(String[] args) {
        EXPECT.sentence("An element spans rows and columns (1 .. 8", Promise13SpanTest::leastAndMost);
        EXPECT.sentence("ten times the rows, and the columns, as they were", Promise13SpanTest::asTheyWere);
        EXPECT.sentence("they count where it is a head or a cell", Promise13SpanTest::whereTheyCount);
        EXPECT.sentence("NoSuchElementException; IllegalArgumentException.", Promise13SpanTest::wrongInputs);
        EXPECT.end();
    }

    private static void leastAndMost() {
        evenTables();
        unevenTables();
        widestRow();
        StructureRows rows = new StructureRows();
        for (int down = 1; down <= 8; down++) {
            for (int right = 1; right <= 8; right++) {
                rows.span(0, down, right);
                EXPECT.is("span(0, " + down + ", " + right + ")", rows.span(0, down, right), 10 * down + right);
            }
        }
    }

    private static void asTheyWere() {
        StructureRows rows = new StructureRows();
        States.fillElements(rows);
        for (int element : new int[] {0, 1, 58, 59}) {
            String span = "span(" + element;
            EXPECT.is(span + ", 8, 3)", rows.span(element, 8, 3), 11);
            EXPECT.is(span + ", 2, 8)", rows.span(element, 2, 8), 83);
            EXPECT.is(span + ", 1, 1)", rows.span(element, 1, 1), 28);
            EXPECT.is(span + ", 8, 8)", rows.span(element, 8, 8), 11);
            EXPECT.is(span + ", 8, 8) again", rows.span(element, 8, 8), 88);
        }
        EXPECT.is("another element's are as at first", rows.span(2, 1, 1), 11);
    }

    private static void whereTheyCount() {
        whatCounts();
        for (int role = 1; role <= 12; role++) {
            if (role != 8 && role != 9) {
                StructureRows rows = new StructureRows();
                int table = Tables.add(rows, 0, new int[] {11}, new int[] {11});
                rows.span(rows.element(table + 1, role), 8, 8);
                rows.span(rows.element(table, role), 8, 8);
                rows.span(table, 8, 8);
                rows.span(table + 1, 8, 8);
                rows.span(0, 8, 8);
                if (role != 7) {
                    EXPECT.faultsOfKind("role " + role, rows, 5);
                } else {
                    EXPECT.faultsOfKind("one row more", rows, 5, Expect.row(table, 0));
                }
            }
        }
    }

    private static void wrongInputs() {
        StructureRows rows = new StructureRows();
        rows.element(0, 9);
        rows.span(1, 4, 5);
        for (int bad : Expect.outside(1, 8)) {
            for (int right : new int[] {1, 8}) {
                EXPECT.refuses("span(1, " + bad + ", " + right + ")", Expect.BAD_ARGUMENT,
                        () -> rows.span(1, bad, right));
                EXPECT.refuses("span(1, " + right + ", " + bad + ")", Expect.BAD_ARGUMENT,
                        () -> rows.span(1, right, bad));
            }
            EXPECT.refuses("span(1, " + bad + ", " + bad + ")", Expect.BAD_ARGUMENT, () -> rows.span(1, bad, bad));
            EXPECT.refuses("span(2, " + bad + ", 1)", Expect.NO_ELEMENT, () -> rows.span(2, bad, 1));
            EXPECT.refuses("span(2, 1, " + bad + ")", Expect.NO_ELEMENT, () -> rows.span(2, 1, bad));
        }
        for (int bad : Expect.outside(0, 1)) {
            EXPECT.refuses("span(" + bad + ", 1, 1)", Expect.NO_ELEMENT, () -> rows.span(bad, 1, 1));
        }
        EXPECT.is("the spans are as they were", rows.span(1, 1, 1), 45);
    }

    private static void evenTables() {
        Tables.even(EXPECT, "no rows", new int[][] {});
        Tables.even(EXPECT, "one row", new int[][] {{11, 13, 81}});
        Tables.even(EXPECT, "rows without cells", new int[][] {{}, {}});
        Tables.even(EXPECT, "as wide", new int[][] {{11, 12}, {13}, {11, 11, 11}});
        Tables.even(EXPECT, "a span in the middle", new int[][] {{11, 31, 11}, {11, 11}, {11, 11}});
        Tables.even(EXPECT, "a span at the end", new int[][] {{11, 21}, {11}});
        Tables.even(EXPECT, "a row that cells from above fill", new int[][] {{22}, {}});
        Tables.even(EXPECT, "spans by turns", new int[][] {{21, 11}, {21}, {11}});
        // The last place is all that counts: the one before it stays free.
        Tables.even(EXPECT, "a gap ahead of a cell from above", new int[][] {{11, 11, 21}, {11}});
        Tables.even(EXPECT, "rows that do not come", new int[][] {{81, 11}, {11}});
        Tables.even(EXPECT, "all reach rows that do not come", new int[][] {{31, 11, 81}});
    }

    private static void unevenTables() {
        Tables.uneven(EXPECT, "wider", new int[][] {{11, 11}, {11, 11, 11}});
        Tables.uneven(EXPECT, "narrower", new int[][] {{12}, {11}});
        Tables.uneven(EXPECT, "the last alone", new int[][] {{11}, {11}, {}});
        Tables.uneven(EXPECT, "the first alone", new int[][] {{}, {11}});
        Tables.uneven(EXPECT, "two columns, then none", new int[][] {{12}, {}});
        Tables.uneven(EXPECT, "a cell too many below a span", new int[][] {{21, 11}, {11, 11}});
        Tables.uneven(EXPECT, "a span has ended", new int[][] {{21, 11}, {11}, {11}});
        // Two columns are asked for where only one is free.
        Tables.uneven(EXPECT, "into a cell from above", new int[][] {{11, 21}, {12}});
        Tables.uneven(EXPECT, "into a cell from above, all rows as long", new int[][] {{11, 11, 21}, {11, 12}});
        Tables.uneven(EXPECT, "between two from above", new int[][] {{21, 11, 21}, {12}});
    }

    private static void whatCounts() {
        StructureRows rows = new StructureRows();
        rows.element(0, 100);
        rows.element(1, 101);
        rows.element(1, 12);
        rows.element(3, 9);
        rows.element(1, 7);
        rows.element(2, 8);
        rows.element(2, 102);
        rows.element(5, 9);
        rows.element(2, 12);
        rows.content(2, 0, 0);
        rows.span(2, 5, 5);
        rows.span(9, 5, 5);
        EXPECT.faultsOfKind("no table yet", rows, 5);
        rows.map(100, 6);
        EXPECT.faultsOfKind("one row is none yet", rows, 5);
        rows.map(101, 7);
        EXPECT.faultsOfKind("heads, cells and rows alone", rows, 5);
        rows.map(102, 9);
        EXPECT.faultsOfKind("a mapped cell", rows, 5, Expect.row(1, 0));
        rows.span(8, 1, 2);
        EXPECT.faultsOfKind("even by its span", rows, 5);
        rows.span(6, 2, 1);
        EXPECT.faultsOfKind("a head's span", rows, 5, Expect.row(1, 0));

        StructureRows hidden = new StructureRows();
        hidden.element(0, 12);
        Tables.add(hidden, 1, new int[][] {{11}, {}});
        Tables.add(hidden, 0, new int[][] {{11}, {11}});
        Tables.add(hidden, 0, new int[][] {{}, {11}});
        EXPECT.faultsOfKind("also in artefacts, each by itself", hidden, 5, Expect.row(2, 0), Expect.row(11, 0));
    }

    private static void widestRow() {
        StructureRows rows = new StructureRows();
        int[] wide = new int[55];
        java.util.Arrays.fill(wide, 88);
        Tables.add(rows, 0, wide, new int[] {});
        EXPECT.faultsOfKind("440 places", rows, 5);
        rows.element(3 + 55, 9);
        EXPECT.faultsOfKind("one behind them", rows, 5, Expect.row(1, 0));
    }
}
