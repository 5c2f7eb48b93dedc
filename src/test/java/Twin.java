import java.util.ArrayList;
import java.util.List;
import java.util.function.Consumer;
import java.util.function.ToIntFunction;

/**
 * Two objects with the same calls behind them, one of which then had one call more: whether all that can be seen of
 * them is the same still. What is seen is cut into views, each on twins of its own, so that none needs more than the
 * 512 calls that an object is good for.
 */
final class Twin {
    private interface View {
        void see(StructureRows rows, List<String> seen);
    }

    private static final List<View> VIEWS = List.of(Twin::reading, Twin::parents, Twin::faultsOfBefore,
            Twin::faultsOfNow, Twin::traits, Twin::shown, Twin::maps, Twin::room);

    private Twin() {
    }

    /** The call must be refused with the exception, and leave nothing behind. */
    static void refused(Expect expect, String call, Class<? extends RuntimeException> due,
            Consumer<StructureRows> state, ToIntFunction<StructureRows> made) {
        StructureRows rows = new StructureRows();
        state.accept(rows);
        expect.refuses(call, due, () -> made.applyAsInt(rows));
        expect.refuses(call + " again", due, () -> made.applyAsInt(rows));
        unchanged(expect, call, state, made);
    }

    /** The call, whether it answers or throws, must leave nothing behind. */
    static void unchanged(Expect expect, String call, Consumer<StructureRows> state,
            ToIntFunction<StructureRows> made) {
        for (View view : VIEWS) {
            List<String> without = seenOf(view, state, null);
            List<String> with = seenOf(view, state, made);
            if (!without.equals(with)) {
                expect.complain(call, "changed what is seen from " + without + " to " + with);
            }
        }
    }

    private static List<String> seenOf(View view, Consumer<StructureRows> state, ToIntFunction<StructureRows> made) {
        StructureRows rows = new StructureRows();
        state.accept(rows);
        if (made != null) {
            answer(() -> made.applyAsInt(rows));
        }
        List<String> seen = new ArrayList<>();
        view.see(rows, seen);
        return seen;
    }

    private static String answer(Expect.Call call) {
        try {
            return String.valueOf(call.answer());
        } catch (RuntimeException thrown) {
            return thrown.getClass().getSimpleName();
        }
    }

    private static void reading(StructureRows rows, List<String> seen) {
        seen.add(answer(rows::walk));
        for (int i = 0; i < 101; i++) {
            int part = i;
            seen.add(answer(() -> rows.at(part, 0)) + "/" + answer(() -> rows.at(part, 1)));
        }
    }

    private static void parents(StructureRows rows, List<String> seen) {
        for (int tag = 0; tag < 200; tag++) {
            int asked = tag;
            seen.add(answer(() -> rows.parent(asked / 20, asked % 20)));
        }
    }

    private static void faultsOfBefore(StructureRows rows, List<String> seen) {
        for (int i = 0; i < 80; i++) {
            for (int what = 0; what < 3; what++) {
                int fault = i;
                int asked = what;
                seen.add(answer(() -> rows.fault(fault, asked)));
            }
        }
    }

    private static void faultsOfNow(StructureRows rows, List<String> seen) {
        seen.add(answer(rows::check));
        faultsOfBefore(rows, seen);
    }

    private static void traits(StructureRows rows, List<String> seen) {
        for (int i = -1; i < 10; i++) {
            int heading = i;
            seen.add(answer(() -> rows.outline(heading, 0)) + "/" + answer(() -> rows.outline(heading, 2)));
        }
        for (int number = 0; number < 61; number++) {
            int element = number;
            seen.add(answer(() -> rows.heading(element, 6)) + "/" + answer(() -> rows.words(element, true)) + "/"
                    + answer(() -> rows.span(element, 8, 8)));
        }
    }

    private static void shown(StructureRows rows, List<String> seen) {
        for (int i = -1; i < 20; i++) {
            int mark = i;
            seen.add(answer(() -> rows.untagged(mark)));
        }
        for (int tag = 0; tag < 200; tag++) {
            int asked = tag;
            seen.add(answer(() -> rows.shows(asked / 20, asked % 20)));
        }
    }

    /** A role leads to another when the other can't be mapped to it. */
    private static void maps(StructureRows rows, List<String> seen) {
        for (int role = 100; role < 120; role++) {
            for (int to = 100; to < 110; to++) {
                int asked = role;
                int back = to;
                seen.add(answer(() -> rows.map(asked, back)));
            }
        }
        seen.add(answer(rows::check));
    }

    /** How many elements and parts still go in, and which numbers they get. */
    private static void room(StructureRows rows, List<String> seen) {
        for (int i = 0; i < 60; i++) {
            seen.add(answer(() -> rows.element(0, 3)));
        }
        for (int tag = 99; tag < 200; tag++) {
            int asked = tag;
            seen.add(answer(() -> rows.content(0, asked / 20, asked % 20)));
        }
        seen.add(answer(rows::walk));
        for (int tag = 0; tag < 41; tag++) {
            seen.add(answer(() -> rows.content(0, 0, 0)));
        }
        seen.add(answer(rows::check));
    }
}
