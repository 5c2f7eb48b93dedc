/** The third paragraph of the terms: the walk, and what pages show. */
public final class TermsWalkTest {
    private static final Expect EXPECT = new Expect();

    public static void main(String[] args) {
        EXPECT.sentence("from the document on each kid in order", TermsWalkTest::kidsInOrder);
        EXPECT.sentence("an element's own kids in its place", TermsWalkTest::kidsInPlace);
        EXPECT.sentence("artefacts, and all in them, are passed over", TermsWalkTest::artefacts);
        EXPECT.sentence("PAGES show marks, in an order", TermsWalkTest::shownInOrder);
        EXPECT.end();
    }

    private static void kidsInOrder() {
        StructureRows none = new StructureRows();
        EXPECT.walk("no kids", none);
        none.element(0, 1);
        EXPECT.walk("kids without parts", none);

        StructureRows all = new StructureRows();
        int[][] due = new int[100][];
        for (int part = 0; part < 100; part++) {
            // Neither by pages nor by marks: as they were told.
            int page = 9 - part % 5;
            int mark = part / 5;
            all.content(0, page, mark);
            due[part] = Expect.row(page, mark, 0);
        }
        EXPECT.walk("all 100 in the document", all, due);
    }

    private static void kidsInPlace() {
        StructureRows rows = new StructureRows();
        int[][] due = new int[59][];
        for (int number = 1; number < 60; number++) {
            rows.element(number - 1, 11);
            rows.content(number - 1, number % 10, number / 10);
            // Each has its element ahead of its part, so that the deepest part is read first.
            due[59 - number] = Expect.row(number % 10, number / 10, number - 1);
        }
        EXPECT.walk("a chain of 60", rows, due);
    }

    private static void artefacts() {
        StructureRows rows = new StructureRows();
        rows.element(0, 12);
        rows.content(1, 0, 0);
        EXPECT.walk("all is an artefact", rows);
        rows.element(1, 3);
        rows.content(2, 0, 1);
        rows.element(2, 12);
        rows.content(3, 0, 2);
        rows.content(2, 0, 3);
        EXPECT.walk("an artefact in a paragraph in an artefact", rows);
        rows.content(0, 0, 4);
        EXPECT.walk("what stands behind it", rows, Expect.row(0, 4, 0));
        rows.element(0, 12);
        EXPECT.walk("one without kids", rows, Expect.row(0, 4, 0));
        rows.content(0, 0, 5);
        EXPECT.walk("what stands behind that", rows, Expect.row(0, 4, 0), Expect.row(0, 5, 0));

        StructureRows deep = new StructureRows();
        for (int number = 1; number < 59; number++) {
            deep.element(number - 1, 3);
        }
        deep.element(58, 12);
        deep.content(59, 0, 0);
        deep.content(58, 0, 1);
        EXPECT.walk("the 60th of a chain", deep, Expect.row(0, 1, 58));
    }

    private static void shownInOrder() {
        StructureRows rows = new StructureRows();
        int[] due = new int[40];
        for (int i = 0; i < 20; i++) {
            // 7 and 20 have no divisor in common, so that each mark comes once.
            int mark = i * 7 % 20;
            EXPECT.is("shows(9, " + mark + ")", rows.shows(9, mark), i + 1);
            EXPECT.is("shows(0, " + (19 - mark) + ")", rows.shows(0, 19 - mark), i + 1);
            due[i] = 19 - mark;
            due[20 + i] = 180 + mark;
        }
        EXPECT.untagged("two full pages", rows, due);
        for (int mark = 0; mark < 20; mark++) {
            EXPECT.is("full: shows(9, " + mark + ")", rows.shows(9, mark), 0);
        }
        EXPECT.untagged("as before", rows, due);
    }
}
