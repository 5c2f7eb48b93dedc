/** Elements have words, or none. */
public final class Promise12WordsTest {
    public static void main(String[] args) {
        Expect expect = new Expect();
        StructureRows rows = new StructureRows();
        rows.element(0, 10);
        rows.element(0, 10);
        expect.is("words(1, false)", rows.words(1, false), 0);
        expect.is("words(1, true)", rows.words(1, true), 0);
        expect.is("words(1, true) again", rows.words(1, true), 1);
        expect.faults("the other has none", rows, Expect.row(6, 2, 0));
        expect.is("words(1, false)", rows.words(1, false), 1);
        expect.is("words(1, false) again", rows.words(1, false), 0);
        expect.faults("both have none", rows, Expect.row(6, 1, 0), Expect.row(6, 2, 0));
        for (int bad : new int[] {-1, 3, 60, Integer.MIN_VALUE, Integer.MAX_VALUE}) {
            expect.refuses("words(" + bad + ", true)", Expect.NO_ELEMENT, () -> rows.words(bad, true));
        }
        expect.is("words(3, true), when it comes", rows.element(0, 10) - 3 + rows.words(3, true), 0);
        expect.end();
    }
}
