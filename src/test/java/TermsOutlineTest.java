/** The sixth paragraph of the terms: the outline. */
public final class TermsOutlineTest {
    private static final Expect EXPECT = new Expect();

    public static void main(String[] args) {
        EXPECT.sentence("the headings of the walk that have a level", TermsOutlineTest::whichHeadings);
        EXPECT.sentence("the DEPTH is how many others it lies in", TermsOutlineTest::depths);
        EXPECT.sentence("it lies in the latest one before it with a lesser level", TermsOutlineTest::lesserLevel);
        EXPECT.sentence("and in what that lies in", TermsOutlineTest::whatThatLiesIn);
        EXPECT.end();
    }

    private static void whichHeadings() {
        StructureRows rows = new StructureRows();
        EXPECT.outline("none", rows);
        rows.heading(0, 1);
        EXPECT.outline("the document is none", rows);
        rows.element(0, 2);
        EXPECT.outline("one without a level", rows);
        rows.heading(1, 6);
        EXPECT.outline("one with a level", rows, Expect.row(1, 0, 6));
        rows.heading(rows.element(0, 3), 1);
        rows.heading(rows.element(0, 100), 1);
        EXPECT.outline("no paragraph, none without a standard", rows, Expect.row(1, 0, 6));
        rows.heading(rows.element(rows.element(0, 12), 2), 1);
        EXPECT.outline("none in an artefact", rows, Expect.row(1, 0, 6));
        rows.heading(rows.element(1, 2), 5);
        rows.heading(rows.element(0, 2), 4);
        rows.heading(rows.element(1, 2), 3);
        EXPECT.outline("in the walk's order, not by numbers", rows, Expect.row(1, 0, 6), Expect.row(6, 0, 5),
                Expect.row(8, 0, 3), Expect.row(7, 1, 4));

        StructureRows most = new StructureRows();
        int[][] due = new int[59][];
        for (int number = 1; number < 60; number++) {
            most.element(0, 2);
            most.heading(number, 1 + number % 6);
            // Levels 2 .. 6 stand ahead of the first one of level 1, so that those are one less deep.
            due[number - 1] = Expect.row(number, number < 6 ? number - 1 : number % 6, 1 + number % 6);
        }
        EXPECT.outline("59 headings", most, due);
    }

    private static void depths() {
        StructureRows rows = new StructureRows();
        int[][] due = new int[12][];
        for (int i = 0; i < 12; i++) {
            int level = i < 6 ? i + 1 : 12 - i;
            rows.heading(rows.element(0, 2), level);
            due[i] = Expect.row(i + 1, level - 1, level);
        }
        EXPECT.outline("from 0 to 5 and back", rows, due);
    }

    private static void lesserLevel() {
        for (int before = 1; before <= 6; before++) {
            for (int level = 1; level <= 6; level++) {
                StructureRows rows = new StructureRows();
                rows.heading(rows.element(0, 2), before);
                rows.heading(rows.element(0, 2), level);
                EXPECT.outline("level " + level + " behind level " + before, rows, Expect.row(1, 0, before),
                        Expect.row(2, before < level ? 1 : 0, level));
            }
        }
        StructureRows inside = new StructureRows();
        inside.heading(inside.element(0, 2), 3);
        inside.heading(inside.element(1, 2), 3);
        inside.heading(inside.element(2, 2), 2);
        EXPECT.outline("where elements lie is all one", inside, Expect.row(1, 0, 3), Expect.row(2, 0, 3),
                Expect.row(3, 0, 2));
    }

    private static void whatThatLiesIn() {
        int[][] runs = {{1, 3, 2, 4}, {6, 5, 4, 3}, {1, 6, 6, 2, 6}, {2, 1, 2, 1}, {1, 2, 4, 3, 4}, {4, 6, 5, 6, 3}};
        int[][] due = {{0, 1, 1, 2}, {0, 0, 0, 0}, {0, 1, 1, 1, 2}, {0, 0, 1, 0}, {0, 1, 2, 2, 3}, {0, 1, 1, 2, 0}};
        for (int run = 0; run < runs.length; run++) {
            StructureRows rows = new StructureRows();
            int[][] outline = new int[runs[run].length][];
            for (int i = 0; i < runs[run].length; i++) {
                rows.heading(rows.element(0, 2), runs[run][i]);
                outline[i] = Expect.row(i + 1, due[run][i], runs[run][i]);
            }
            EXPECT.outline("levels " + java.util.Arrays.toString(runs[run]), rows, outline);
        }
    }
}
