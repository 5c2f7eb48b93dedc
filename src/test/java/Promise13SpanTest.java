/** Spans are had by any element, and count where it is a head or a cell of a row of a table. */
public final class Promise13SpanTest {
    private static final Expect EXPECT = new Expect();

    public static void main(String[] args) {
        answers();
        evenTables();
        unevenTables();
        whatCounts();
        widestRow();
        EXPECT.end();
    }

    private static void answers() {
        StructureRows rows = new StructureRows();
        rows.element(0, 3);
        EXPECT.is("span(1, 8, 3)", rows.span(1, 8, 3), 11);
        EXPECT.is("span(1, 2, 8)", rows.span(1, 2, 8), 83);
        EXPECT.is("span(1, 1, 1)", rows.span(1, 1, 1), 28);
        EXPECT.is("span(0, 4, 5)", rows.span(0, 4, 5), 11);
        EXPECT.is("span(0, 4, 5) again", rows.span(0, 4, 5), 45);
        for (int bad : new int[] {-1, 0, 9, Integer.MIN_VALUE, Integer.MAX_VALUE}) {
            EXPECT.refuses("span(1, " + bad + ", 1)", Expect.BAD_ARGUMENT, () -> rows.span(1, bad, 1));
            EXPECT.refuses("span(1, 1, " + bad + ")", Expect.BAD_ARGUMENT, () -> rows.span(1, 1, bad));
        }
        for (int bad : new int[] {-1, 2, 60, Integer.MIN_VALUE, Integer.MAX_VALUE}) {
            EXPECT.refuses("span(" + bad + ", 1, 1)", Expect.NO_ELEMENT, () -> rows.span(bad, 1, 1));
        }
        EXPECT.refuses("span(2, 0, 0)", Expect.NO_ELEMENT, () -> rows.span(2, 0, 0));
        EXPECT.is("the spans are as they were", rows.span(1, 1, 1), 11);
    }

    private static void evenTables() {
        even("no rows", new int[][] {});
        even("one row", new int[][] {{11, 13, 81}});
        even("rows without cells", new int[][] {{}, {}});
        even("as wide", new int[][] {{11, 12}, {13}, {11, 11, 11}});
        even("a span in the middle", new int[][] {{11, 31, 11}, {11, 11}, {11, 11}});
        even("a span at the end", new int[][] {{11, 21}, {11}});
        even("a row that cells from above fill", new int[][] {{22}, {}});
        even("spans by turns", new int[][] {{21, 11}, {21}, {11}});
        // The last place is all that counts: the one before it stays free.
        even("a gap ahead of a cell from above", new int[][] {{11, 11, 21}, {11}});
        even("rows that do not come", new int[][] {{81, 11}, {11}});
        even("all reach rows that do not come", new int[][] {{31, 11, 81}});
    }

    private static void unevenTables() {
        uneven("wider", new int[][] {{11, 11}, {11, 11, 11}});
        uneven("narrower", new int[][] {{12}, {11}});
        uneven("the last alone", new int[][] {{11}, {11}, {}});
        uneven("the first alone", new int[][] {{}, {11}});
        uneven("two columns, then none", new int[][] {{12}, {}});
        uneven("a cell too many below a span", new int[][] {{21, 11}, {11, 11}});
        uneven("a span has ended", new int[][] {{21, 11}, {11}, {11}});
        // Two columns are asked for where only one is free.
        uneven("into a cell from above", new int[][] {{11, 21}, {12}});
        uneven("into a cell from above, all rows as long", new int[][] {{11, 11, 21}, {11, 12}});
        uneven("between two from above", new int[][] {{21, 11, 21}, {12}});
    }

    private static void whatCounts() {
        StructureRows rows = new StructureRows();
        rows.element(0, 100);
        rows.element(1, 101);
        rows.element(1, 12);
        rows.element(3, 9);
        rows.element(1, 7);
        rows.element(2, 8);
        rows.element(2, 102);
        rows.element(5, 9);
        rows.element(2, 12);
        rows.content(2, 0, 0);
        rows.span(2, 5, 5);
        rows.span(9, 5, 5);
        EXPECT.faultsOfKind("no table yet", rows, 5);
        rows.map(100, 6);
        EXPECT.faultsOfKind("one row is none yet", rows, 5);
        rows.map(101, 7);
        EXPECT.faultsOfKind("heads, cells and rows alone", rows, 5);
        rows.map(102, 9);
        EXPECT.faultsOfKind("a mapped cell", rows, 5, Expect.row(1, 0));
        rows.span(8, 1, 2);
        EXPECT.faultsOfKind("even by its span", rows, 5);
        rows.span(6, 2, 1);
        EXPECT.faultsOfKind("a head's span", rows, 5, Expect.row(1, 0));

        StructureRows hidden = new StructureRows();
        hidden.element(0, 12);
        addTable(hidden, 1, new int[][] {{11}, {}});
        addTable(hidden, 0, new int[][] {{11}, {11}});
        addTable(hidden, 0, new int[][] {{}, {11}});
        EXPECT.faultsOfKind("also in artefacts, each by itself", hidden, 5, Expect.row(2, 0), Expect.row(11, 0));
    }

    private static void widestRow() {
        StructureRows rows = new StructureRows();
        int[] wide = new int[55];
        java.util.Arrays.fill(wide, 88);
        addTable(rows, 0, new int[][] {wide, {}});
        EXPECT.faultsOfKind("440 places", rows, 5);
        rows.element(3 + 55, 9);
        EXPECT.faultsOfKind("one behind them", rows, 5, Expect.row(1, 0));
    }

    private static void even(String name, int[][] spans) {
        StructureRows rows = new StructureRows();
        addTable(rows, 0, spans);
        EXPECT.faultsOfKind("even: " + name, rows, 5);
    }

    private static void uneven(String name, int[][] spans) {
        StructureRows rows = new StructureRows();
        int table = addTable(rows, 0, spans);
        EXPECT.faultsOfKind("uneven: " + name, rows, 5, Expect.row(table, 0));
    }

    /** Each number is a cell: ten times its rows, and its columns. */
    private static int addTable(StructureRows rows, int parent, int[][] spans) {
        int table = rows.element(parent, 6);
        for (int[] row : spans) {
            int rowElement = rows.element(table, 7);
            for (int cell : row) {
                rows.span(rows.element(rowElement, 9), cell / 10, cell % 10);
            }
        }
        return table;
    }
}
