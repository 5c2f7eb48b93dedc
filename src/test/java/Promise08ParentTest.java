/** The element that a marked part is in. */
public final class Promise08ParentTest {
    public static void main(String[] args) {
        Expect expect = new Expect();
        StructureRows rows = new StructureRows();
        rows.element(0, 12);
        rows.element(1, 100);
        rows.content(2, 9, 19);
        rows.content(1, 0, 0);
        rows.content(0, 5, 3);
        rows.content(1, 5, 3);
        rows.shows(7, 7);
        expect.is("parent(9, 19), in an artefact", rows.parent(9, 19), 2);
        expect.is("parent(0, 0)", rows.parent(0, 0), 1);
        expect.is("parent(5, 3), told once more", rows.parent(5, 3), 0);
        expect.is("parent(3, 5)", rows.parent(3, 5), -1);
        expect.is("parent(7, 7), shown alone", rows.parent(7, 7), -1);
        for (int bad : new int[] {-1, 10, Integer.MIN_VALUE, Integer.MAX_VALUE}) {
            expect.refuses("parent(" + bad + ", 0)", Expect.BAD_ARGUMENT, () -> rows.parent(bad, 0));
        }
        for (int bad : new int[] {-1, 20, Integer.MIN_VALUE, Integer.MAX_VALUE}) {
            expect.refuses("parent(0, " + bad + ")", Expect.BAD_ARGUMENT, () -> rows.parent(0, bad));
        }
        expect.end();
    }
}
