import java.util.function.Consumer;
import java.util.function.ToIntFunction;

/** The last paragraph of the terms: what calls throw, and that nothing changes behind them. */
public final class TermsRefusalsTest {
    private static final Expect EXPECT = new Expect();

    public static void main(String[] args) {
        EXPECT.sentence("A call that throws changes nothing", TermsRefusalsTest::changesNothing);
        EXPECT.sentence("UnsupportedOperationException when there are 60", TermsRefusalsTest::fullOfElements);
        EXPECT.sentence("UnsupportedOperationException when there are 100", TermsRefusalsTest::fullOfParts);
        EXPECT.sentence("where several exceptions that a call names fit, it is the one that it names first",
                TermsRefusalsTest::severalFit);
        EXPECT.sentence("0 comes ahead of UnsupportedOperationException", TermsRefusalsTest::zeroAndExceptions);
        EXPECT.sentence("NoSuchElementException: there is no such element", TermsRefusalsTest::noSuchElement);
        EXPECT.end();
    }

    private static void changesNothing() {
        changesNothing("new", States::fresh, 1);
        changesNothing("in the middle", States::middle, 7);
        changesNothing("full", States::full, 60);
    }

    private static void changesNothing(String when, Consumer<StructureRows> state, int elements) {
        for (int bad : Expect.outside(0, elements - 1)) {
            refused(when + ": element(" + bad + ", 3)", Expect.NO_ELEMENT, state, rows -> rows.element(bad, 3));
            refused(when + ": content(" + bad + ", 9, 0)", Expect.NO_ELEMENT, state, rows -> rows.content(bad, 9, 0));
            refused(when + ": heading(" + bad + ", 4)", Expect.NO_ELEMENT, state, rows -> rows.heading(bad, 4));
            refused(when + ": words(" + bad + ", true)", Expect.NO_ELEMENT, state, rows -> rows.words(bad, true));
            refused(when + ": span(" + bad + ", 3, 3)", Expect.NO_ELEMENT, state, rows -> rows.span(bad, 3, 3));
        }
        wrongRoles(when, state);
        wrongMarks(when, state);
        wrongTraits(when, state, elements - 1);
        wrongIndices(when, state);
    }

    private static void wrongRoles(String when, Consumer<StructureRows> state) {
        for (int bad : new int[] {-1, 13, 99, 120, Integer.MIN_VALUE, Integer.MAX_VALUE}) {
            refused(when + ": element(0, " + bad + ")", Expect.BAD_ARGUMENT, state, rows -> rows.element(0, bad));
            refused(when + ": map(" + bad + ", 12)", Expect.BAD_ARGUMENT, state, rows -> rows.map(bad, 12));
            refused(when + ": map(100, " + bad + ")", Expect.BAD_ARGUMENT, state, rows -> rows.map(100, bad));
            refused(when + ": map(" + bad + ", " + bad + ")", Expect.BAD_ARGUMENT, state, rows -> rows.map(bad, bad));
        }
        refused(when + ": element(0, 0)", Expect.BAD_ARGUMENT, state, rows -> rows.element(0, 0));
        refused(when + ": map(0, 12)", Expect.BAD_ARGUMENT, state, rows -> rows.map(0, 12));
        refused(when + ": map(12, 12)", Expect.BAD_ARGUMENT, state, rows -> rows.map(12, 12));
    }

    private static void wrongMarks(String when, Consumer<StructureRows> state) {
        for (int bad : Expect.outside(0, 9)) {
            refused(when + ": content(0, " + bad + ", 0)", Expect.BAD_ARGUMENT, state,
                    rows -> rows.content(0, bad, 0));
            refused(when + ": shows(" + bad + ", 0)", Expect.BAD_ARGUMENT, state, rows -> rows.shows(bad, 0));
            refused(when + ": parent(" + bad + ", 0)", Expect.BAD_ARGUMENT, state, rows -> rows.parent(bad, 0));
        }
        for (int bad : Expect.outside(0, 19)) {
            refused(when + ": content(0, 5, " + bad + ")", Expect.BAD_ARGUMENT, state,
                    rows -> rows.content(0, 5, bad));
            refused(when + ": shows(5, " + bad + ")", Expect.BAD_ARGUMENT, state, rows -> rows.shows(5, bad));
            refused(when + ": parent(5, " + bad + ")", Expect.BAD_ARGUMENT, state, rows -> rows.parent(5, bad));
        }
    }

    private static void wrongTraits(String when, Consumer<StructureRows> state, int last) {
        for (int bad : Expect.outside(1, 6)) {
            refused(when + ": heading(" + last + ", " + bad + ")", Expect.BAD_ARGUMENT, state,
                    rows -> rows.heading(last, bad));
        }
        for (int bad : Expect.outside(1, 8)) {
            refused(when + ": span(" + last + ", " + bad + ", 5)", Expect.BAD_ARGUMENT, state,
                    rows -> rows.span(last, bad, 5));
            refused(when + ": span(" + last + ", 5, " + bad + ")", Expect.BAD_ARGUMENT, state,
                    rows -> rows.span(last, 5, bad));
            refused(when + ": span(0, " + bad + ", " + bad + ")", Expect.BAD_ARGUMENT, state,
                    rows -> rows.span(0, bad, bad));
        }
    }

    private static void wrongIndices(String when, Consumer<StructureRows> state) {
        for (int bad : new int[] {-2, 1000, Integer.MIN_VALUE, Integer.MAX_VALUE}) {
            refused(when + ": at(" + bad + ", 0)", Expect.OUT_OF_BOUNDS, state, rows -> rows.at(bad, 0));
            refused(when + ": fault(" + bad + ", 0)", Expect.OUT_OF_BOUNDS, state, rows -> rows.fault(bad, 0));
            refused(when + ": outline(" + bad + ", 0)", Expect.OUT_OF_BOUNDS, state, rows -> rows.outline(bad, 0));
            refused(when + ": untagged(" + bad + ")", Expect.OUT_OF_BOUNDS, state, rows -> rows.untagged(bad));
        }
        for (int bad : Expect.outside(0, 2)) {
            refused(when + ": at(0, " + bad + ")", Expect.OUT_OF_BOUNDS, state, rows -> rows.at(0, bad));
            refused(when + ": fault(0, " + bad + ")", Expect.OUT_OF_BOUNDS, state, rows -> rows.fault(0, bad));
            refused(when + ": outline(0, " + bad + ")", Expect.OUT_OF_BOUNDS, state, rows -> rows.outline(0, bad));
        }
    }

    private static void fullOfElements() {
        for (int parent : new int[] {0, 1, 59}) {
            for (int role : new int[] {1, 12, 100, 119}) {
                refused("element(" + parent + ", " + role + ")", Expect.UNSUPPORTED, States::fillElements,
                        rows -> rows.element(parent, role));
            }
        }
        refused("element(0, 3)", Expect.UNSUPPORTED, States::full, rows -> rows.element(0, 3));
    }

    private static void fullOfParts() {
        for (int page : new int[] {5, 9}) {
            for (int mark : new int[] {0, 19}) {
                refused("content(0, " + page + ", " + mark + ")", Expect.UNSUPPORTED, TermsRefusalsTest::partsAlone,
                        rows -> rows.content(0, page, mark));
                refused("content(59, " + page + ", " + mark + ")", Expect.UNSUPPORTED, States::full,
                        rows -> rows.content(59, page, mark));
            }
        }
    }

    private static void partsAlone(StructureRows rows) {
        for (int part = 0; part < 100; part++) {
            rows.content(0, part / 20, part % 20);
        }
    }

    private static void severalFit() {
        refused("element(7, 0): no parent, no role", Expect.NO_ELEMENT, States::middle, rows -> rows.element(7, 0));
        refused("element(60, 3): no parent, no room", Expect.NO_ELEMENT, States::full, rows -> rows.element(60, 3));
        refused("element(-1, 13): all three", Expect.NO_ELEMENT, States::full, rows -> rows.element(-1, 13));
        refused("element(59, 0): no role, no room", Expect.BAD_ARGUMENT, States::full, rows -> rows.element(59, 0));
        refused("content(7, 10, 0): no element, no page", Expect.NO_ELEMENT, States::middle,
                rows -> rows.content(7, 10, 0));
        refused("content(-1, 0, 20): no element, no mark", Expect.NO_ELEMENT, States::middle,
                rows -> rows.content(-1, 0, 20));
        refused("content(60, 9, 0): no element, no room", Expect.NO_ELEMENT, States::full,
                rows -> rows.content(60, 9, 0));
        refused("content(60, -1, -1): all three", Expect.NO_ELEMENT, States::full, rows -> rows.content(60, -1, -1));
        refused("content(0, 10, 0): no page, no room", Expect.BAD_ARGUMENT, States::full,
                rows -> rows.content(0, 10, 0));
        refused("content(0, 9, 20): no mark, no room", Expect.BAD_ARGUMENT, States::full,
                rows -> rows.content(0, 9, 20));
        refused("heading(7, 0)", Expect.NO_ELEMENT, States::middle, rows -> rows.heading(7, 0));
        refused("heading(-1, 7)", Expect.NO_ELEMENT, States::middle, rows -> rows.heading(-1, 7));
        refused("span(7, 0, 1)", Expect.NO_ELEMENT, States::middle, rows -> rows.span(7, 0, 1));
        refused("span(-1, 1, 9)", Expect.NO_ELEMENT, States::middle, rows -> rows.span(-1, 1, 9));
    }

    private static void zeroAndExceptions() {
        StructureRows rows = new StructureRows();
        States.fillElements(rows);
        States.fillParts(rows);
        EXPECT.is("content(59, 4, 19), which is in one, when full", rows.content(59, 4, 19), 0);
        EXPECT.is("content(39, 4, 19), which is in that one", rows.content(39, 4, 19), 0);
        EXPECT.is("it stays where it is", rows.parent(4, 19), 39);
        EXPECT.faultsOfKind("both are told", rows, 8, Expect.row(59, 99), Expect.row(39, 99));
        // The other exceptions come ahead of 0, since only that one is told to come behind it.
        refused("content(60, 4, 19)", Expect.NO_ELEMENT, States::full, full -> full.content(60, 4, 19));
        refused("content(7, 9, 19)", Expect.NO_ELEMENT, States::middle, middle -> middle.content(7, 9, 19));
    }

    private static void noSuchElement() {
        StructureRows rows = new StructureRows();
        for (int next = 1; next < 60; next++) {
            int number = next;
            EXPECT.refuses("heading(" + number + ", 1) ahead of it", Expect.NO_ELEMENT, () -> rows.heading(number, 1));
            EXPECT.is("element(" + (number - 1) + ", 3)", rows.element(number - 1, 3), number);
            EXPECT.is("heading(" + number + ", 1) behind it", rows.heading(number, 1), 0);
        }
        EXPECT.refuses("heading(60, 1)", Expect.NO_ELEMENT, () -> rows.heading(60, 1));
    }

    private static void refused(String call, Class<? extends RuntimeException> due, Consumer<StructureRows> state,
            ToIntFunction<StructureRows> made) {
        Twin.refused(EXPECT, call, due, state, made);
    }
}
