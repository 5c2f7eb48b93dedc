/** Promise 11: levels are had by any element, and count where it is a heading. */
public final class Promise11HeadingTest {
    private static final Expect EXPECT = new Expect();

    public static void main(String[] args) {
        EXPECT.sentence("An element has a level (1 .. 6; it counts where it is a heading)",
                Promise11HeadingTest::levels);
        EXPECT.sentence("what it had; 0 for none", Promise11HeadingTest::whatItHad);
        EXPECT.sentence("NoSuchElementException; IllegalArgumentException.", Promise11HeadingTest::wrongInputs);
        EXPECT.end();
    }

    private static void levels() {
        StructureRows rows = new StructureRows();
        rows.element(0, 100);
        rows.heading(1, 2);
        EXPECT.outline("no heading yet", rows);
        rows.map(100, 2);
        EXPECT.outline("the level that it had", rows, Expect.row(1, 0, 2));
        for (int level = 1; level <= 6; level++) {
            rows.heading(1, level);
            EXPECT.outline("level " + level, rows, Expect.row(1, 0, level));
        }
        rows.map(100, 3);
        EXPECT.outline("no heading any more", rows);
        rows.map(100, 2);
        EXPECT.outline("one again, with its level", rows, Expect.row(1, 0, 6));
    }

    private static void whatItHad() {
        StructureRows rows = new StructureRows();
        States.fillElements(rows);
        for (int element : new int[] {0, 1, 58, 59}) {
            EXPECT.is("heading(" + element + ", 6)", rows.heading(element, 6), 0);
            for (int level = 1; level <= 6; level++) {
                int before = level == 1 ? 6 : level - 1;
                EXPECT.is("heading(" + element + ", " + level + ")", rows.heading(element, level), before);
                EXPECT.is("heading(" + element + ", " + level + ") again", rows.heading(element, level), level);
            }
        }
        EXPECT.is("another element has none", rows.heading(2, 1), 0);
    }

    private static void wrongInputs() {
        StructureRows rows = new StructureRows();
        rows.element(0, 2);
        for (int bad : Expect.outside(1, 6)) {
            EXPECT.refuses("heading(1, " + bad + ")", Expect.BAD_ARGUMENT, () -> rows.heading(1, bad));
            EXPECT.refuses("heading(2, " + bad + ")", Expect.NO_ELEMENT, () -> rows.heading(2, bad));
        }
        EXPECT.is("it has none still", rows.heading(1, 4), 0);
        for (int bad : Expect.outside(1, 6)) {
            EXPECT.refuses("heading(1, " + bad + ")", Expect.BAD_ARGUMENT, () -> rows.heading(1, bad));
        }
        for (int bad : Expect.outside(0, 1)) {
            EXPECT.refuses("heading(" + bad + ", 1)", Expect.NO_ELEMENT, () -> rows.heading(bad, 1));
        }
        EXPECT.is("the level is as it was", rows.heading(1, 1), 4);
    }
}
