/** Tables, told as rows of cells: each cell a number, ten times the rows that it spans, and the columns. */
final class Tables {
    private Tables() {
    }

    static int add(StructureRows rows, int parent, int[]... table) {
        int tableElement = rows.element(parent, 6);
        for (int[] row : table) {
            addRow(rows, tableElement, row);
        }
        return tableElement;
    }

    static int addRow(StructureRows rows, int table, int... cells) {
        int rowElement = rows.element(table, 7);
        for (int cell : cells) {
            int cellElement = rows.element(rowElement, 9);
            if (cell != 11) {
                rows.span(cellElement, cell / 10, cell % 10);
            }
        }
        return rowElement;
    }

    static void even(Expect expect, String name, int[]... table) {
        StructureRows rows = new StructureRows();
        add(rows, 0, table);
        expect.faultsOfKind("even: " + name, rows, 5);
    }

    static void uneven(Expect expect, String name, int[]... table) {
        StructureRows rows = new StructureRows();
        int element = add(rows, 0, table);
        expect.faultsOfKind("uneven: " + name, rows, 5, Expect.row(element, 0));
    }

    /** A row with the cells given and as many of one row and column behind them. */
    static int[] row(int plain, int... first) {
        int[] cells = java.util.Arrays.copyOf(first, first.length + plain);
        java.util.Arrays.fill(cells, first.length, cells.length, 11);
        return cells;
    }
}
