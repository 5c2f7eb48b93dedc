/** The first paragraph of the terms: elements, kids and marked parts. */
public final class TermsElementsTest {
    private static final Expect EXPECT = new Expect();

    public static void main(String[] args) {
        EXPECT.sentence("An object is used for at most 512 calls after it has been made",
                TermsElementsTest::theLastCall);
        EXPECT.sentence("ELEMENTS 0, 1, .. (60 at most)", TermsElementsTest::sixty);
        EXPECT.sentence("element 0, the document, is there at first", TermsElementsTest::theDocument);
        EXPECT.sentence("Others are KIDS of one, behind the kids that it has", TermsElementsTest::behindTheKids);
        EXPECT.sentence("a page 0 .. 9", TermsElementsTest::pages);
        EXPECT.sentence("a mark 0 .. 19", TermsElementsTest::marks);
        EXPECT.sentence("100 in all elements at most", TermsElementsTest::hundred);
        EXPECT.end();
    }

    /** The most of everything in one object, to the very last call. */
    private static void theLastCall() {
        StructureRows rows = new StructureRows();
        for (int number = 1; number < 60; number++) {
            EXPECT.is("call " + number, rows.element(0, 100), number);
        }
        for (int part = 0; part < 100; part++) {
            EXPECT.is("call " + (60 + part), rows.content(0, part / 20, part % 20), 1);
        }
        for (int shown = 0; shown < 200; shown++) {
            EXPECT.is("call " + (160 + shown), rows.shows(shown / 20, 19 - shown % 20), shown % 20 + 1);
        }
        for (int call = 360; call < 510; call++) {
            EXPECT.is("call " + call, rows.content(call % 60, 4, 19), 0);
        }
        // 59 without a standard, 59 without kids, 40 told once more, 100 in no element, 95 read late.
        EXPECT.is("call 510", rows.check(), 59 + 59 + 40 + 100 + 95);
        EXPECT.is("call 511", rows.fault(352, 2), 99);
        EXPECT.is("call 512", rows.at(99, 1), 19);
    }

    private static void sixty() {
        StructureRows wide = new StructureRows();
        StructureRows deep = new StructureRows();
        for (int number = 1; number <= 59; number++) {
            EXPECT.is("element " + number + " of the document", wide.element(0, 3), number);
            EXPECT.is("element " + number + " in the one before", deep.element(number - 1, 3), number);
        }
        EXPECT.refuses("a 61st in the document", Expect.UNSUPPORTED, () -> wide.element(0, 3));
        EXPECT.refuses("a 61st in the last", Expect.UNSUPPORTED, () -> deep.element(59, 3));
        EXPECT.is("a part of the 60th of many", wide.content(59, 0, 0), 1);
        EXPECT.is("a part of the 60th in a chain", deep.content(59, 0, 0), 1);
        EXPECT.walk("many", wide, Expect.row(0, 0, 59));
        EXPECT.walk("a chain", deep, Expect.row(0, 0, 59));
        EXPECT.is("58 others have no kids", wide.check(), 58);
        EXPECT.is("all have kids", deep.check(), 0);
    }

    private static void theDocument() {
        StructureRows rows = new StructureRows();
        EXPECT.is("content(0, 0, 0)", rows.content(0, 0, 0), 1);
        EXPECT.is("parent(0, 0)", rows.parent(0, 0), 0);
        for (int bad : Expect.outside(0, 0)) {
            EXPECT.refuses("element(" + bad + ", 3)", Expect.NO_ELEMENT, () -> rows.element(bad, 3));
        }
        EXPECT.is("element(0, 3)", rows.element(0, 3), 1);
    }

    private static void behindTheKids() {
        StructureRows rows = new StructureRows();
        rows.content(0, 0, 0);
        rows.element(0, 3);
        rows.content(0, 0, 1);
        rows.element(1, 11);
        rows.content(1, 0, 2);
        rows.element(1, 11);
        rows.content(3, 0, 3);
        rows.content(2, 0, 4);
        rows.element(0, 3);
        rows.content(4, 0, 5);
        rows.content(0, 0, 6);
        EXPECT.walk("elements and parts by turns", rows, Expect.row(0, 0, 0), Expect.row(0, 4, 2),
                Expect.row(0, 2, 1), Expect.row(0, 3, 3), Expect.row(0, 1, 0), Expect.row(0, 5, 4),
                Expect.row(0, 6, 0));
    }

    private static void pages() {
        for (int page = 0; page <= 9; page++) {
            StructureRows rows = new StructureRows();
            EXPECT.is("shows(" + page + ", 7)", rows.shows(page, 7), 1);
            EXPECT.is("parent(" + page + ", 7) ahead", rows.parent(page, 7), -1);
            EXPECT.is("content(0, " + page + ", 7)", rows.content(0, page, 7), 1);
            EXPECT.is("parent(" + page + ", 7)", rows.parent(page, 7), 0);
            EXPECT.walk("page " + page, rows, Expect.row(page, 7, 0));
        }
        StructureRows rows = new StructureRows();
        for (int bad : Expect.outside(0, 9)) {
            // Marks that would make up for the wrong page, were the two only reckoned together.
            for (int mark : new int[] {0, 19}) {
                EXPECT.refuses("content(0, " + bad + ", " + mark + ")", Expect.BAD_ARGUMENT,
                        () -> rows.content(0, bad, mark));
                EXPECT.refuses("shows(" + bad + ", " + mark + ")", Expect.BAD_ARGUMENT, () -> rows.shows(bad, mark));
                EXPECT.refuses("parent(" + bad + ", " + mark + ")", Expect.BAD_ARGUMENT,
                        () -> rows.parent(bad, mark));
            }
        }
    }

    private static void marks() {
        for (int mark = 0; mark <= 19; mark++) {
            StructureRows rows = new StructureRows();
            EXPECT.is("shows(4, " + mark + ")", rows.shows(4, mark), 1);
            EXPECT.is("parent(4, " + mark + ") ahead", rows.parent(4, mark), -1);
            EXPECT.is("content(0, 4, " + mark + ")", rows.content(0, 4, mark), 1);
            EXPECT.is("parent(4, " + mark + ")", rows.parent(4, mark), 0);
            EXPECT.walk("mark " + mark, rows, Expect.row(4, mark, 0));
        }
        StructureRows rows = new StructureRows();
        for (int bad : Expect.outside(0, 19)) {
            for (int page : new int[] {0, 4, 9}) {
                EXPECT.refuses("content(0, " + page + ", " + bad + ")", Expect.BAD_ARGUMENT,
                        () -> rows.content(0, page, bad));
                EXPECT.refuses("shows(" + page + ", " + bad + ")", Expect.BAD_ARGUMENT, () -> rows.shows(page, bad));
                EXPECT.refuses("parent(" + page + ", " + bad + ")", Expect.BAD_ARGUMENT,
                        () -> rows.parent(page, bad));
            }
        }
    }

    private static void hundred() {
        StructureRows rows = new StructureRows();
        rows.element(0, 12);
        rows.element(0, 100);
        for (int part = 0; part < 100; part++) {
            EXPECT.is("part " + part, rows.content(part % 3, 9 - part / 20, part % 20), 1);
        }
        for (int element = 0; element < 3; element++) {
            int full = element;
            EXPECT.refuses("a 101st in element " + full, Expect.UNSUPPORTED, () -> rows.content(full, 0, 0));
        }
        EXPECT.is("the artefact's 33 are not walked", rows.walk(), 67);
        EXPECT.is("the 100th is in the document", rows.parent(5, 19), 0);
        EXPECT.is("the 101st is in none", rows.parent(0, 0), -1);
        EXPECT.is("a page may still show it", rows.shows(0, 0), 1);
    }
}
