/** Promise 2: elements are numbered, and refused where the parent, the role or the room is wrong. */
public final class Promise02ElementTest {
    private static final Expect EXPECT = new Expect();

    public static void main(String[] args) {
        EXPECT.sentence("An element: its number.", Promise02ElementTest::numbers);
        EXPECT.sentence("NoSuchElementException (parent)", Promise02ElementTest::wrongParents);
        EXPECT.sentence("IllegalArgumentException when role is none (or 0)", Promise02ElementTest::wrongRoles);
        EXPECT.sentence("UnsupportedOperationException when there are 60", Promise02ElementTest::sixtyAtMost);
        EXPECT.sentence("where several exceptions that a call names fit, it is the one that it names first",
                Promise02ElementTest::orderOfRefusals);
        EXPECT.end();
    }

    private static void numbers() {
        StructureRows rows = new StructureRows();
        int number = 1;
        for (int role = 1; role <= 12; role++) {
            EXPECT.is("element(0, " + role + ")", rows.element(0, role), number++);
        }
        for (int role = 100; role <= 119; role++) {
            EXPECT.is("element(" + (number - 1) + ", " + role + ")", rows.element(number - 1, role), number++);
        }
        StructureRows kids = new StructureRows();
        kids.element(0, 3);
        kids.content(0, 0, 0);
        kids.element(0, 3);
        kids.content(2, 0, 1);
        kids.content(1, 0, 2);
        EXPECT.walk("kids", kids, Expect.row(0, 2, 1), Expect.row(0, 0, 0), Expect.row(0, 1, 2));
    }

    private static void wrongParents() {
        StructureRows rows = new StructureRows();
        for (int last = 0; last < 59; last++) {
            for (int bad : Expect.outside(0, last)) {
                EXPECT.refuses("element(" + bad + ", 3)", Expect.NO_ELEMENT, () -> rows.element(bad, 3));
            }
            EXPECT.is("element(" + last + ", 3)", rows.element(last, 3), last + 1);
        }
    }

    private static void wrongRoles() {
        StructureRows rows = new StructureRows();
        for (int role : new int[] {0, -1, 13, 50, 99, 120, 121, -100, Integer.MIN_VALUE, Integer.MAX_VALUE}) {
            EXPECT.refuses("element(0, " + role + ")", Expect.BAD_ARGUMENT, () -> rows.element(0, role));
        }
        EXPECT.is("refused elements take no number", rows.element(0, 1), 1);
        EXPECT.is("the greatest standard one", rows.element(0, 12), 2);
        EXPECT.is("the least own one", rows.element(0, 100), 3);
        EXPECT.is("the greatest own one", rows.element(0, 119), 4);
    }

    private static void sixtyAtMost() {
        StructureRows rows = new StructureRows();
        fill(rows);
        EXPECT.refuses("the 61st", Expect.UNSUPPORTED, () -> rows.element(59, 3));
        EXPECT.refuses("the 61st once more", Expect.UNSUPPORTED, () -> rows.element(0, 119));
        EXPECT.is("the last one is there", rows.heading(59, 6), 0);
        EXPECT.refuses("no 61st is there", Expect.NO_ELEMENT, () -> rows.heading(60, 6));
        EXPECT.is("a part in the deepest", rows.content(59, 9, 19), 1);
        EXPECT.walk("a chain of 60", rows, Expect.row(9, 19, 59));
    }

    private static void orderOfRefusals() {
        StructureRows rows = new StructureRows();
        EXPECT.refuses("element(1, 0)", Expect.NO_ELEMENT, () -> rows.element(1, 0));
        fill(rows);
        EXPECT.refuses("full: element(60, 0)", Expect.NO_ELEMENT, () -> rows.element(60, 0));
        EXPECT.refuses("full: element(60, 3)", Expect.NO_ELEMENT, () -> rows.element(60, 3));
        EXPECT.refuses("full: element(0, 0)", Expect.BAD_ARGUMENT, () -> rows.element(0, 0));
        EXPECT.refuses("full: element(0, 13)", Expect.BAD_ARGUMENT, () -> rows.element(0, 13));
    }

    /** Each in the one before it: the deepest tree that there can be. */
    private static void fill(StructureRows rows) {
        for (int number = 1; number < 60; number++) {
            EXPECT.is("element " + number, rows.element(number - 1, 1), number);
        }
    }
}
