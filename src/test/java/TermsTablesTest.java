/** The fourth paragraph of the terms: how tables are laid out, and when they are uneven. */
public final class TermsTablesTest {
    private static final Expect EXPECT = new Expect();

    public static void main(String[] args) {
        EXPECT.sentence("ROWS are a table's kids that are rows", TermsTablesTest::rowsOfATable);
        EXPECT.sentence("CELLS a row's kids that are heads or cells", TermsTablesTest::cellsOfARow);
        EXPECT.sentence("each with ROWS and COLUMNS that it spans (at first 1, 1)", TermsTablesTest::spansAtFirst);
        EXPECT.sentence("a cell is laid at the first place, from the one behind the cell before it on, that no cell"
                + " from above reaches", TermsTablesTest::firstPlace);
        EXPECT.sentence("and takes as many columns from there", TermsTablesTest::columns);
        EXPECT.sentence("for as many rows", TermsTablesTest::rowsBelow);
        EXPECT.sentence("(also ones that do not come)", TermsTablesTest::rowsThatDoNotCome);
        EXPECT.sentence("Where one of them is taken by a cell from above, the table is UNEVEN",
                TermsTablesTest::takenFromAbove);
        EXPECT.sentence("likewise where rows end (the last place taken in it) differently",
                TermsTablesTest::endsOfRows);
        EXPECT.sentence("the last place taken in it", TermsTablesTest::endsByCellsFromAbove);
        EXPECT.sentence("a table (by numbers) that is uneven", TermsTablesTest::eachByItself);
        EXPECT.end();
    }

    private static void rowsOfATable() {
        StructureRows rows = new StructureRows();
        int table = Tables.add(rows, 0, new int[] {11, 11});
        int part = rows.element(table, 1);
        Tables.addRow(rows, part, 11);
        EXPECT.faultsOfKind("a row of a table's part is none of the table", rows, 5);
        int artefact = rows.element(table, 12);
        Tables.addRow(rows, artefact, 11, 11, 11);
        EXPECT.faultsOfKind("nor one of a table's artefact", rows, 5);
        Tables.addRow(rows, 0, 11);
        EXPECT.faultsOfKind("nor one of the document", rows, 5);
        rows.content(table, 0, 0);
        EXPECT.faultsOfKind("nor a marked part", rows, 5);
        int own = rows.element(table, 100);
        rows.element(own, 9);
        EXPECT.faultsOfKind("nor one without a standard", rows, 5);
        rows.map(100, 7);
        EXPECT.faultsOfKind("but one by its standard", rows, 5, Expect.row(table, 0));
        rows.map(100, 12);
        EXPECT.faultsOfKind("and no more", rows, 5);
        rows.element(table, 7);
        EXPECT.faultsOfKind("a row without kids is one", rows, 5, Expect.row(table, 0));
    }

    private static void cellsOfARow() {
        for (int role = 1; role <= 12; role++) {
            StructureRows rows = new StructureRows();
            int table = Tables.add(rows, 0, new int[] {11, 11});
            int row = Tables.addRow(rows, table, 11);
            rows.element(row, role);
            if (role == 8 || role == 9) {
                EXPECT.faultsOfKind("role " + role + " is laid", rows, 5);
            } else {
                EXPECT.faultsOfKind("role " + role + " is not laid", rows, 5, Expect.row(table, 0));
            }
        }
        StructureRows rows = new StructureRows();
        int table = Tables.add(rows, 0, new int[] {11});
        int row = Tables.addRow(rows, table, 11);
        rows.element(rows.element(row, 12), 9);
        EXPECT.faultsOfKind("a cell of a row's artefact is none of the row", rows, 5);
        rows.element(rows.element(row, 3), 9);
        EXPECT.faultsOfKind("nor one of a row's paragraph", rows, 5);
        rows.content(row, 0, 0);
        EXPECT.faultsOfKind("nor a marked part", rows, 5);
        rows.element(row, 119);
        EXPECT.faultsOfKind("nor one without a standard", rows, 5);
        rows.map(119, 8);
        EXPECT.faultsOfKind("but one by its standard", rows, 5, Expect.row(table, 0));
    }

    private static void spansAtFirst() {
        StructureRows rows = new StructureRows();
        EXPECT.is("the document's", rows.span(0, 1, 1), 11);
        for (int role = 1; role <= 12; role++) {
            EXPECT.is("those of role " + role, rows.span(rows.element(0, role), 1, 1), 11);
        }
        Tables.even(EXPECT, "one cell, then one", new int[] {11}, new int[] {11});
        Tables.uneven(EXPECT, "one cell, then none", new int[] {11}, new int[] {});
        Tables.uneven(EXPECT, "one cell, then two", new int[] {11}, new int[] {11, 11});
    }

    private static void firstPlace() {
        // How many places from above there are ahead of, between and behind the cells of the second row.
        for (int above = 0; above <= 8; above++) {
            int[] ahead = Tables.row(1, repeat(21, above));
            Tables.even(EXPECT, above + " from above ahead", ahead, new int[] {11});
            Tables.uneven(EXPECT, above + " from above ahead, one too many", ahead, new int[] {11, 11});
            int[] between = new int[above + 2];
            java.util.Arrays.fill(between, 21);
            between[0] = 11;
            between[above + 1] = 11;
            Tables.even(EXPECT, above + " from above between", between, new int[] {11, 11});
            Tables.uneven(EXPECT, above + " from above between, one too many", between, new int[] {11, 11, 11});
        }
        Tables.even(EXPECT, "one cell from above is as wide as 8", new int[] {28, 11}, new int[] {11});
        Tables.even(EXPECT, "by turns", new int[] {21, 11, 21, 11, 21, 11}, new int[] {11, 11, 11});
        Tables.uneven(EXPECT, "by turns, one too many", new int[] {21, 11, 21, 11, 21}, new int[] {11, 11, 11});
        Tables.uneven(EXPECT, "all from above", new int[] {21, 21}, new int[] {11});
        Tables.even(EXPECT, "a hole in each row", new int[] {21, 11, 21}, new int[] {21}, new int[] {11, 11});
    }

    private static void columns() {
        for (int wide = 1; wide <= 8; wide++) {
            int[] above = {10 + wide};
            Tables.even(EXPECT, "columns " + wide, above, repeat(11, wide));
            Tables.uneven(EXPECT, "columns " + wide + ", one too few", above, repeat(11, wide - 1));
            Tables.uneven(EXPECT, "columns " + wide + ", one too many", above, repeat(11, wide + 1));
        }
        int[] widest = repeat(18, 55);
        Tables.even(EXPECT, "440 columns in one row", widest);
        StructureRows rows = new StructureRows();
        int table = Tables.add(rows, 0, repeat(28, 54), new int[] {});
        EXPECT.faultsOfKind("432 columns from above", rows, 5);
        rows.element(table + 1, 9);
        EXPECT.faultsOfKind("and one more", rows, 5, Expect.row(table, 0));
    }

    private static void rowsBelow() {
        for (int high = 1; high <= 8; high++) {
            int[][] table = new int[high + 1][];
            java.util.Arrays.fill(table, new int[] {11});
            table[0] = new int[] {10 * high + 1, 11};
            table[high] = new int[] {11, 11};
            Tables.even(EXPECT, "rows " + high, table);
            table[high] = new int[] {11};
            Tables.uneven(EXPECT, "rows " + high + ", thought one too many", table);
            if (high > 1) {
                table[high] = new int[] {11, 11};
                table[high - 1] = new int[] {11, 11};
                Tables.uneven(EXPECT, "rows " + high + ", thought one too few", table);
            }
        }
    }

    private static void rowsThatDoNotCome() {
        for (int high = 1; high <= 8; high++) {
            Tables.even(EXPECT, "one row alone, rows " + high, new int[] {10 * high + 1, 11});
            Tables.even(EXPECT, "one row alone, its end by rows " + high, new int[] {11, 10 * high + 1});
            Tables.even(EXPECT, "two rows, rows " + high, new int[] {11, 11}, new int[] {10 * high + 1, 11});
        }
        Tables.uneven(EXPECT, "the ones that do come are compared", new int[] {88}, new int[] {}, new int[] {11});
    }

    /** Both rows end alike, so that it is the place taken twice alone that makes the table uneven. */
    private static void takenFromAbove() {
        for (int wide = 2; wide <= 8; wide++) {
            for (int place = 0; place <= wide; place++) {
                int[] above = Tables.row(10, new int[0]);
                above[place] = 21;
                String name = wide + " columns, place " + place + " from above";
                if (place == 0 || place == wide) {
                    Tables.even(EXPECT, name, above, Tables.row(9 - wide, 10 + wide));
                } else {
                    Tables.uneven(EXPECT, name, above, Tables.row(10 - wide, 10 + wide));
                }
            }
        }
        Tables.uneven(EXPECT, "from two rows above", new int[] {11, 31, 11}, new int[] {11, 11},
                new int[] {12, 11});
        Tables.even(EXPECT, "from no more rows above", new int[] {11, 21, 11}, new int[] {11, 11},
                new int[] {12, 11});
        Tables.uneven(EXPECT, "in the last row alone", new int[] {11, 11, 11}, new int[] {11, 21, 11},
                new int[] {12, 11});
    }

    private static void endsOfRows() {
        Tables.even(EXPECT, "no row");
        Tables.even(EXPECT, "one row without cells", new int[] {});
        Tables.even(EXPECT, "two rows without cells", new int[] {}, new int[] {});
        Tables.even(EXPECT, "one row", repeat(11, 57));
        for (int wide = 1; wide <= 20; wide++) {
            Tables.even(EXPECT, "as wide: " + wide, repeat(11, wide), repeat(11, wide));
            Tables.uneven(EXPECT, "the second is wider than " + wide, repeat(11, wide), repeat(11, wide + 1));
            Tables.uneven(EXPECT, "the first is wider than " + wide, repeat(11, wide + 1), repeat(11, wide));
        }
        Tables.uneven(EXPECT, "the first has no cells", new int[] {}, new int[] {11});
        Tables.uneven(EXPECT, "the last has no cells", new int[] {11}, new int[] {});
        Tables.uneven(EXPECT, "the middle one has no cells", new int[] {11}, new int[] {}, new int[] {11});
        Tables.uneven(EXPECT, "the first and the last are as wide", new int[] {11}, new int[] {11, 11},
                new int[] {11});
        int[][] most = new int[29][];
        java.util.Arrays.fill(most, new int[] {11});
        Tables.even(EXPECT, "29 rows", most);
        most[28] = new int[] {12};
        Tables.uneven(EXPECT, "29 rows, the last is wider", most);
        int[][] empty = new int[58][];
        java.util.Arrays.fill(empty, new int[] {});
        Tables.even(EXPECT, "58 rows without cells", empty);
    }

    private static void endsByCellsFromAbove() {
        Tables.even(EXPECT, "a row without cells, filled from above", new int[] {21, 21}, new int[] {});
        Tables.even(EXPECT, "a row without cells, its last place alone from above", new int[] {11, 21},
                new int[] {});
        Tables.uneven(EXPECT, "its first place alone from above", new int[] {21, 11}, new int[] {});
        Tables.even(EXPECT, "free places between do not count", new int[] {11, 11, 11, 21}, new int[] {11});
        Tables.uneven(EXPECT, "a cell behind the one from above", new int[] {11, 21}, new int[] {11, 11});
        Tables.uneven(EXPECT, "below the one from above no more", new int[] {11, 21}, new int[] {11},
                new int[] {11});
    }

    private static void eachByItself() {
        StructureRows rows = new StructureRows();
        int even = Tables.add(rows, 0, new int[] {12}, new int[] {11, 11});
        int uneven = Tables.add(rows, 0, new int[] {88}, new int[] {11});
        int below = Tables.add(rows, 0, new int[] {11}, new int[] {11});
        int inArtefact = Tables.add(rows, rows.element(0, 12), new int[] {11}, new int[] {});
        int inCell = Tables.add(rows, even + 2, new int[] {11}, new int[] {11, 11});
        EXPECT.faultsOfKind("of " + even + ", " + below + " and three others", rows, 5, Expect.row(uneven, 0),
                Expect.row(inArtefact, 0), Expect.row(inCell, 0));
        int own = rows.element(0, 101);
        Tables.addRow(rows, own, 11);
        Tables.addRow(rows, own);
        EXPECT.faultsOfKind("one without a standard is no table", rows, 5, Expect.row(uneven, 0),
                Expect.row(inArtefact, 0), Expect.row(inCell, 0));
        rows.map(101, 6);
        EXPECT.faultsOfKind("one by its standard is", rows, 5, Expect.row(uneven, 0), Expect.row(inArtefact, 0),
                Expect.row(inCell, 0), Expect.row(own, 0));
    }

    private static int[] repeat(int cell, int times) {
        int[] cells = new int[times];
        java.util.Arrays.fill(cells, cell);
        return cells;
    }
}
