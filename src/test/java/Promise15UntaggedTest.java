/** Promise 15: marks that are shown and in no element, by pages, as they are shown. */
public final class Promise15UntaggedTest {
    private static final Expect EXPECT = new Expect();

    public static void main(String[] args) {
        EXPECT.sentence("The i-th mark (20 times the page, and it) that a page shows, in no element, by pages, as"
                + " they are shown", Promise15UntaggedTest::marks);
        EXPECT.sentence("i = -1: how many", Promise15UntaggedTest::howMany);
        EXPECT.sentence("IndexOutOfBoundsException.", Promise15UntaggedTest::wrongInputs);
        EXPECT.end();
    }

    private static void marks() {
        StructureRows rows = new StructureRows();
        rows.shows(5, 5);
        rows.shows(9, 19);
        rows.shows(0, 9);
        rows.shows(5, 2);
        rows.shows(0, 0);
        rows.content(0, 3, 3);
        EXPECT.untagged("by pages", rows, 9, 0, 105, 102, 199);
        rows.element(0, 12);
        rows.content(1, 0, 9);
        EXPECT.untagged("in an artefact is in an element", rows, 0, 105, 102, 199);
        rows.content(0, 9, 19);
        EXPECT.untagged("the last is gone", rows, 0, 105, 102);
        Twin.unchanged(EXPECT, "untagged(0)", States::middle, middle -> middle.untagged(0));
    }

    private static void howMany() {
        StructureRows rows = new StructureRows();
        EXPECT.is("none: untagged(-1)", rows.untagged(-1), 0);
        for (int shown = 0; shown < 200; shown++) {
            rows.shows(shown / 20, shown % 20);
            EXPECT.is("untagged(-1)", rows.untagged(-1), shown + 1);
        }
        EXPECT.is("untagged(0)", rows.untagged(0), 0);
        EXPECT.is("untagged(199)", rows.untagged(199), 199);
        EXPECT.refuses("untagged(200)", Expect.OUT_OF_BOUNDS, () -> rows.untagged(200));
        for (int part = 0; part < 50; part++) {
            rows.content(0, 9, part % 20);
        }
        EXPECT.is("a page less", rows.untagged(-1), 180);
        EXPECT.is("its last", rows.untagged(179), 179);
        EXPECT.refuses("untagged(180)", Expect.OUT_OF_BOUNDS, () -> rows.untagged(180));
        Twin.unchanged(EXPECT, "untagged(-1)", States::middle, middle -> middle.untagged(-1));
    }

    private static void wrongInputs() {
        StructureRows none = new StructureRows();
        StructureRows one = new StructureRows();
        one.shows(9, 19);
        EXPECT.refuses("none: untagged(0)", Expect.OUT_OF_BOUNDS, () -> none.untagged(0));
        for (int bad : new int[] {-2, 1, 199, Integer.MIN_VALUE, Integer.MAX_VALUE}) {
            EXPECT.refuses("none: untagged(" + bad + ")", Expect.OUT_OF_BOUNDS, () -> none.untagged(bad));
            EXPECT.refuses("one: untagged(" + bad + ")", Expect.OUT_OF_BOUNDS, () -> one.untagged(bad));
        }
        EXPECT.is("one: untagged(0)", one.untagged(0), 199);
    }
}
