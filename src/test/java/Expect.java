/** Counts and prints the calls whose answer is not the one that is due. */
final class Expect {
    interface Call {
        int answer();
    }

    static final Class<? extends RuntimeException> NO_ELEMENT = java.util.NoSuchElementException.class;
    static final Class<? extends RuntimeException> BAD_ARGUMENT = IllegalArgumentException.class;
    static final Class<? extends RuntimeException> UNSUPPORTED = UnsupportedOperationException.class;
    static final Class<? extends RuntimeException> OUT_OF_BOUNDS = IndexOutOfBoundsException.class;

    private int wrong = 0;
    private String sentence = "";

    /** One sentence of the document, told word for word, and the test that would fail if it did not hold. */
    void sentence(String words, Runnable test) {
        sentence = "\"" + words + "\": ";
        try {
            test.run();
        } catch (RuntimeException thrown) {
            complain("a call", "threw " + thrown + ", and nothing was to be thrown");
        }
        sentence = "";
    }

    /** The numbers next to a range on both its sides, and those that are farthest from it. */
    static int[] outside(int first, int last) {
        return new int[] {first - 1, last + 1, Integer.MIN_VALUE, Integer.MAX_VALUE};
    }

    void is(String call, int got, int due) {
        if (got != due) {
            complain(call, "answered " + got + ", due is " + due);
        }
    }

    /** The class must be the very one: what the machine throws by itself is often a subclass of it. */
    void refuses(String call, Class<? extends RuntimeException> due, Call made) {
        try {
            complain(call, "answered " + made.answer() + ", due is " + due.getSimpleName());
        } catch (RuntimeException thrown) {
            if (thrown.getClass() != due) {
                complain(call, "threw " + thrown + ", due is " + due.getSimpleName());
            }
        }
    }

    /** All faults of a new check, as rows of kind, element and number. */
    void faults(String when, StructureRows rows, int[]... due) {
        is(when + ": check()", rows.check(), due.length);
        for (int i = 0; i < due.length; i++) {
            for (int what = 0; what < 3; what++) {
                int asked = i;
                int askedWhat = what;
                String call = when + ": fault(" + i + ", " + what + ")";
                is(call, answerOf(call, () -> rows.fault(asked, askedWhat)), due[i][what]);
            }
        }
        refuses(when + ": fault behind the last", OUT_OF_BOUNDS, () -> rows.fault(due.length, 0));
    }

    /** Only the faults of one kind, as rows of element and number. */
    void faultsOfKind(String when, StructureRows rows, int kind, int[]... due) {
        int count = rows.check();
        int seen = 0;
        for (int i = 0; i < count; i++) {
            if (rows.fault(i, 0) != kind) {
                continue;
            }
            if (seen < due.length) {
                is(when + ": element of fault " + seen + " of kind " + kind, rows.fault(i, 1), due[seen][0]);
                is(when + ": number of fault " + seen + " of kind " + kind, rows.fault(i, 2), due[seen][1]);
            }
            seen++;
        }
        is(when + ": faults of kind " + kind, seen, due.length);
    }

    /** The whole walk, as rows of page, mark and element. */
    void walk(String when, StructureRows rows, int[]... due) {
        is(when + ": walk()", rows.walk(), due.length);
        for (int i = 0; i < due.length; i++) {
            for (int what = 0; what < 3; what++) {
                int asked = i;
                int askedWhat = what;
                String call = when + ": at(" + i + ", " + what + ")";
                is(call, answerOf(call, () -> rows.at(asked, askedWhat)), due[i][what]);
            }
        }
        refuses(when + ": at behind the last", OUT_OF_BOUNDS, () -> rows.at(due.length, 0));
    }

    /** The whole outline, as rows of element, depth and level. */
    void outline(String when, StructureRows rows, int[]... due) {
        is(when + ": outline(-1, 0)", rows.outline(-1, 0), due.length);
        for (int i = 0; i < due.length; i++) {
            for (int what = 0; what < 3; what++) {
                int asked = i;
                int askedWhat = what;
                String call = when + ": outline(" + i + ", " + what + ")";
                is(call, answerOf(call, () -> rows.outline(asked, askedWhat)), due[i][what]);
            }
        }
        refuses(when + ": outline behind the last", OUT_OF_BOUNDS, () -> rows.outline(due.length, 0));
    }

    /** All untagged marks. */
    void untagged(String when, StructureRows rows, int... due) {
        is(when + ": untagged(-1)", rows.untagged(-1), due.length);
        for (int i = 0; i < due.length; i++) {
            int asked = i;
            String call = when + ": untagged(" + i + ")";
            is(call, answerOf(call, () -> rows.untagged(asked)), due[i]);
        }
        refuses(when + ": untagged behind the last", OUT_OF_BOUNDS, () -> rows.untagged(due.length));
    }

    static int[] row(int... numbers) {
        return numbers;
    }

    void complain(String call, String what) {
        wrong++;
        System.out.println(sentence + call + " " + what);
    }

    void end() {
        if (wrong > 0) {
            System.out.println(wrong + " answers are not as due");
            System.exit(1);
        }
    }

    /** The answer of a call that must not throw. */
    int answerOf(String call, Call made) {
        try {
            return made.answer();
        } catch (RuntimeException thrown) {
            complain(call, "threw " + thrown);
            return Integer.MIN_VALUE;
        }
    }
}
