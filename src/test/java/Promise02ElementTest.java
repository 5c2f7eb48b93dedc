/** Elements are numbered, and refused where the parent, the role or the room is wrong. */
public final class Promise02ElementTest {
    private static final Expect EXPECT = new Expect();

    public static void main(String[] args) {
        numbersAndRoles();
        kidsStandBehindKids();
        orderOfRefusals();
        sixtyAtMost();
        EXPECT.end();
    }

    private static void numbersAndRoles() {
        StructureRows rows = new StructureRows();
        int number = 1;
        for (int role = 1; role <= 12; role++) {
            EXPECT.is("element(0, " + role + ")", rows.element(0, role), number++);
        }
        for (int role = 100; role <= 119; role++) {
            EXPECT.is("element(0, " + role + ")", rows.element(0, role), number++);
        }
        for (int role : new int[] {0, -1, 13, 50, 99, 120, 121, Integer.MIN_VALUE, Integer.MAX_VALUE}) {
            EXPECT.refuses("element(0, " + role + ")", Expect.BAD_ARGUMENT, () -> rows.element(0, role));
        }
        int next = number;
        for (int parent : new int[] {-1, next, 59, 60, Integer.MIN_VALUE, Integer.MAX_VALUE}) {
            EXPECT.refuses("element(" + parent + ", 3)", Expect.NO_ELEMENT, () -> rows.element(parent, 3));
        }
        EXPECT.is("refused elements take no number", rows.element(next - 1, 3), next);
    }

    private static void kidsStandBehindKids() {
        StructureRows rows = new StructureRows();
        rows.element(0, 3);
        rows.content(0, 0, 0);
        rows.element(0, 3);
        rows.content(2, 0, 1);
        rows.content(1, 0, 2);
        EXPECT.walk("kids", rows, Expect.row(0, 2, 1), Expect.row(0, 0, 0), Expect.row(0, 1, 2));
    }

    private static void orderOfRefusals() {
        StructureRows rows = new StructureRows();
        EXPECT.refuses("element(1, 0)", Expect.NO_ELEMENT, () -> rows.element(1, 0));
        fill(rows);
        EXPECT.refuses("full: element(60, 0)", Expect.NO_ELEMENT, () -> rows.element(60, 0));
        EXPECT.refuses("full: element(0, 0)", Expect.BAD_ARGUMENT, () -> rows.element(0, 0));
        EXPECT.refuses("full: element(0, 13)", Expect.BAD_ARGUMENT, () -> rows.element(0, 13));
    }

    private static void sixtyAtMost() {
        StructureRows rows = new StructureRows();
        fill(rows);
        EXPECT.refuses("the 61st", Expect.UNSUPPORTED, () -> rows.element(59, 3));
        EXPECT.refuses("the 61st once more", Expect.UNSUPPORTED, () -> rows.element(0, 119));
        EXPECT.is("the last one is there", rows.heading(59, 6), 0);
        EXPECT.refuses("no 61st is there", Expect.NO_ELEMENT, () -> rows.heading(60, 6));
        EXPECT.is("a part in the deepest", rows.content(59, 9, 19), 1);
        EXPECT.walk("a chain of 60", rows, Expect.row(9, 19, 59));
    }

    /** Each in the one before it: the deepest tree that there can be. */
    private static void fill(StructureRows rows) {
        for (int number = 1; number < 60; number++) {
            EXPECT.is("element " + number, rows.element(number - 1, 1), number);
        }
    }
}
