/** Marks that are shown and in no element, by pages, as they are shown. */
public final class Promise15UntaggedTest {
    public static void main(String[] args) {
        Expect expect = new Expect();
        StructureRows rows = new StructureRows();
        rows.shows(5, 5);
        rows.shows(9, 19);
        rows.shows(0, 9);
        rows.shows(5, 2);
        rows.shows(0, 0);
        rows.content(0, 3, 3);
        expect.untagged("by pages", rows, 9, 0, 105, 102, 199);
        rows.element(0, 12);
        rows.content(1, 0, 9);
        expect.untagged("in an artefact is in an element", rows, 0, 105, 102, 199);
        rows.content(0, 9, 19);
        expect.untagged("the last is gone", rows, 0, 105, 102);
        for (int bad : new int[] {-2, 3, Integer.MIN_VALUE, Integer.MAX_VALUE}) {
            expect.refuses("untagged(" + bad + ")", Expect.OUT_OF_BOUNDS, () -> rows.untagged(bad));
        }
        expect.end();
    }
}
