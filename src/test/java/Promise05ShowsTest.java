/** Pages show marks once each, in an order. */
public final class Promise05ShowsTest {
    public static void main(String[] args) {
        Expect expect = new Expect();
        StructureRows rows = new StructureRows();
        for (int page = 0; page < 10; page++) {
            for (int count = 1; count <= 20; count++) {
                expect.is("shows(" + page + ", " + (20 - count) + ")", rows.shows(page, 20 - count), count);
            }
            expect.is("shows(" + page + ", 7) again", rows.shows(page, 7), 0);
        }
        int[] due = new int[200];
        for (int i = 0; i < 200; i++) {
            due[i] = i / 20 * 20 + 19 - i % 20;
        }
        expect.untagged("all are shown", rows, due);

        StructureRows fresh = new StructureRows();
        for (int bad : new int[] {-1, 10, Integer.MIN_VALUE, Integer.MAX_VALUE}) {
            expect.refuses("shows(" + bad + ", 0)", Expect.BAD_ARGUMENT, () -> fresh.shows(bad, 0));
        }
        for (int bad : new int[] {-1, 20, Integer.MIN_VALUE, Integer.MAX_VALUE}) {
            expect.refuses("shows(1, " + bad + ")", Expect.BAD_ARGUMENT, () -> fresh.shows(1, bad));
        }
        expect.untagged("nothing came of them", fresh);
        expect.is("shows(1, 0)", fresh.shows(1, 0), 1);
        expect.is("shows(0, 19)", fresh.shows(0, 19), 1);
        expect.is("shows(1, 0) again", fresh.shows(1, 0), 0);
        expect.is("0 counts for nothing", fresh.shows(1, 1), 2);
        expect.end();
    }
}
