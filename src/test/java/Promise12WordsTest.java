/** Promise 12: elements have words, or none. */
public final class Promise12WordsTest {
    private static final Expect EXPECT = new Expect();

    public static void main(String[] args) {
        EXPECT.sentence("An element has words, or has none", Promise12WordsTest::hasOrHasNone);
        EXPECT.sentence("what it had (1, 0)", Promise12WordsTest::whatItHad);
        EXPECT.sentence("NoSuchElementException.", Promise12WordsTest::wrongInputs);
        EXPECT.end();
    }

    private static void hasOrHasNone() {
        StructureRows rows = new StructureRows();
        rows.element(0, 10);
        rows.element(0, 100);
        rows.words(1, true);
        rows.words(2, true);
        rows.map(100, 10);
        EXPECT.faults("both have words", rows);
        rows.words(1, false);
        EXPECT.faults("one has none", rows, Expect.row(6, 1, 0));
        rows.words(2, false);
        EXPECT.faults("both have none", rows, Expect.row(6, 1, 0), Expect.row(6, 2, 0));
    }

    private static void whatItHad() {
        StructureRows rows = new StructureRows();
        States.fillElements(rows);
        for (int element : new int[] {0, 1, 58, 59}) {
            EXPECT.is("words(" + element + ", false)", rows.words(element, false), 0);
            EXPECT.is("words(" + element + ", true)", rows.words(element, true), 0);
            EXPECT.is("words(" + element + ", true) again", rows.words(element, true), 1);
            EXPECT.is("words(" + element + ", false)", rows.words(element, false), 1);
            EXPECT.is("words(" + element + ", false) again", rows.words(element, false), 0);
            EXPECT.is("words(" + element + ", true)", rows.words(element, true), 0);
        }
        EXPECT.is("another element has none", rows.words(2, true), 0);
    }

    private static void wrongInputs() {
        StructureRows rows = new StructureRows();
        rows.element(0, 10);
        for (int bad : Expect.outside(0, 1)) {
            EXPECT.refuses("words(" + bad + ", true)", Expect.NO_ELEMENT, () -> rows.words(bad, true));
            EXPECT.refuses("words(" + bad + ", false)", Expect.NO_ELEMENT, () -> rows.words(bad, false));
        }
        rows.element(0, 10);
        EXPECT.is("words(2, true), when it comes", rows.words(2, true), 0);
        EXPECT.is("words(1, true)", rows.words(1, true), 0);
        EXPECT.refuses("words(60, true), when there are 60", Expect.NO_ELEMENT, () -> {
            StructureRows full = new StructureRows();
            States.fillElements(full);
            return full.words(60, true);
        });
    }
}
