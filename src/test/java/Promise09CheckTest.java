/** Promise 9: each kind of fault, and all of them in their order. */
public final class Promise09CheckTest {
    private static final Expect EXPECT = new Expect();

    public static void main(String[] args) {
        EXPECT.sentence("All FAULTS are looked for", Promise09CheckTest::allKinds);
        EXPECT.sentence("how many.", Promise09CheckTest::howMany);
        EXPECT.end();
    }

    private static void allKinds() {
        withoutStandard();
        withoutLevel();
        leaps();
        misplaced();
        figures();
        withoutKids();
        repeated();
        untagged();
        readLate();
        allKindsInOrder();
    }

    private static void howMany() {
        StructureRows none = new StructureRows();
        EXPECT.is("none: check()", none.check(), 0);
        EXPECT.is("none: check() again", none.check(), 0);
        none.element(0, 3);
        EXPECT.is("one: check()", none.check(), 1);
        EXPECT.is("one: check() again", none.check(), 1);
        none.content(1, 0, 0);
        EXPECT.is("none any more: check()", none.check(), 0);
        mostFaults();
        // The faults of the latest check are the same behind one check more, where nothing came between.
        Twin.unchanged(EXPECT, "check()", States::full, StructureRows::check);
        Twin.unchanged(EXPECT, "check()", rows -> {
            States.middle(rows);
            rows.check();
        }, StructureRows::check);
    }

    private static void withoutStandard() {
        StructureRows rows = new StructureRows();
        rows.element(0, 119);
        rows.element(0, 12);
        rows.element(2, 118);
        rows.map(118, 117);
        EXPECT.faultsOfKind("also in artefacts", rows, 1, Expect.row(1, 0), Expect.row(3, 0));
        rows.map(117, 1);
        EXPECT.faultsOfKind("one has a standard", rows, 1, Expect.row(1, 0));
    }

    private static void withoutLevel() {
        StructureRows rows = new StructureRows();
        rows.element(0, 2);
        rows.element(0, 12);
        rows.element(2, 2);
        rows.element(0, 3);
        EXPECT.faultsOfKind("also in artefacts", rows, 2, Expect.row(1, 0), Expect.row(3, 0));
        rows.heading(1, 1);
        EXPECT.faultsOfKind("one has a level", rows, 2, Expect.row(3, 0));
    }

    private static void leaps() {
        StructureRows rows = new StructureRows();
        int[] levels = {2, 3, 5, 6, 1, 3};
        for (int i = 0; i < levels.length; i++) {
            rows.element(0, 2);
            rows.heading(i + 1, levels[i]);
        }
        EXPECT.faultsOfKind("leaps", rows, 3, Expect.row(1, 2), Expect.row(3, 5), Expect.row(6, 3));
        // In the walk, not by numbers: the new one is read ahead of element 2.
        rows.element(1, 2);
        EXPECT.faultsOfKind("one without a level", rows, 3, Expect.row(1, 2), Expect.row(3, 5), Expect.row(6, 3));
        rows.heading(7, 1);
        EXPECT.faultsOfKind("the walk's order", rows, 3, Expect.row(1, 2), Expect.row(2, 3), Expect.row(3, 5),
                Expect.row(6, 3));
        rows.heading(7, 4);
        EXPECT.faultsOfKind("by the walk", rows, 3, Expect.row(1, 2), Expect.row(7, 4), Expect.row(3, 5),
                Expect.row(6, 3));
        rows.element(0, 12);
        rows.element(8, 2);
        rows.heading(9, 6);
        rows.element(0, 2);
        rows.heading(10, 4);
        rows.element(0, 3);
        rows.heading(11, 1);
        EXPECT.faultsOfKind("artefacts and paragraphs do not count", rows, 3, Expect.row(1, 2), Expect.row(7, 4),
                Expect.row(3, 5), Expect.row(6, 3));
    }

    /** Each role in each other one: the faults of the fourth kind by a table written from the document. */
    private static void misplaced() {
        for (int holder = 1; holder <= 13; holder++) {
            for (int role = 1; role <= 13; role++) {
                StructureRows rows = new StructureRows();
                rows.element(0, holder == 13 ? 100 : holder);
                rows.element(1, role == 13 ? 100 : role);
                boolean holderWrong = holder == 5 || holder == 7 || holder == 8 || holder == 9;
                String when = "role " + role + " in role " + holder;
                if (holderWrong && isWrong(holder, role)) {
                    EXPECT.faultsOfKind(when, rows, 4, Expect.row(1, 0), Expect.row(2, 0));
                } else if (holderWrong) {
                    EXPECT.faultsOfKind(when, rows, 4, Expect.row(1, 0));
                } else if (isWrong(holder, role)) {
                    EXPECT.faultsOfKind(when, rows, 4, Expect.row(2, 0));
                } else {
                    EXPECT.faultsOfKind(when, rows, 4);
                }
            }
        }
        StructureRows rows = new StructureRows();
        rows.element(0, 4);
        rows.content(1, 0, 0);
        rows.element(1, 101);
        rows.content(2, 0, 1);
        rows.map(101, 5);
        EXPECT.faults("a list's marked part is no element", rows);
    }

    private static boolean isWrong(int holder, int role) {
        switch (holder) {
            case 4: return role != 5 && role != 12;
            case 6: return role != 7 && role != 12;
            case 7: return role != 8 && role != 9 && role != 12;
            default: return role == 5 || role == 7 || role == 8 || role == 9;
        }
    }

    private static void figures() {
        StructureRows rows = new StructureRows();
        rows.element(0, 10);
        rows.element(0, 12);
        rows.element(2, 10);
        rows.element(0, 3);
        rows.content(4, 0, 0);
        EXPECT.faults("without words", rows, Expect.row(6, 1, 0), Expect.row(6, 3, 0));
        rows.words(1, true);
        EXPECT.faults("one has words", rows, Expect.row(6, 3, 0));
    }

    private static void withoutKids() {
        StructureRows rows = new StructureRows();
        for (int role = 1; role <= 12; role++) {
            rows.element(0, role);
            rows.words(role, true);
        }
        rows.element(0, 100);
        rows.element(0, 101);
        rows.map(101, 10);
        rows.words(14, true);
        rows.element(1, 11);
        rows.content(2, 0, 0);
        EXPECT.faultsOfKind("all but figures", rows, 7, Expect.row(3, 0), Expect.row(4, 0), Expect.row(5, 0),
                Expect.row(6, 0), Expect.row(7, 0), Expect.row(8, 0), Expect.row(9, 0), Expect.row(11, 0),
                Expect.row(12, 0), Expect.row(13, 0), Expect.row(15, 0));

        StructureRows other = new StructureRows();
        other.map(100, 0);
        other.element(0, 100);
        EXPECT.faults("the document is element 0 alone", other, Expect.row(7, 1, 0));
    }

    private static void repeated() {
        StructureRows rows = new StructureRows();
        rows.element(0, 12);
        rows.content(1, 9, 18);
        rows.content(0, 1, 1);
        rows.content(0, 9, 18);
        rows.content(1, 1, 1);
        rows.content(1, 9, 18);
        EXPECT.faults("in the order in which they were told", rows, Expect.row(8, 0, 198), Expect.row(8, 1, 21),
                Expect.row(8, 1, 198));
    }

    private static void untagged() {
        StructureRows rows = new StructureRows();
        rows.shows(9, 0);
        rows.shows(0, 19);
        rows.shows(0, 3);
        rows.shows(0, 4);
        rows.element(0, 12);
        rows.content(1, 0, 3);
        EXPECT.faults("by pages", rows, Expect.row(9, -1, 19), Expect.row(9, -1, 4), Expect.row(9, -1, 180));
    }

    private static void readLate() {
        StructureRows rows = new StructureRows();
        int[] shown = {4, 3, 2, 1, 0};
        for (int mark : shown) {
            rows.shows(2, mark);
        }
        rows.shows(3, 1);
        rows.shows(3, 0);
        int[][] read = {{2, 2}, {3, 0}, {2, 9}, {2, 3}, {3, 1}, {2, 4}, {4, 0}, {2, 1}, {2, 0}};
        rows.element(0, 3);
        for (int[] part : read) {
            rows.content(1, part[0], part[1]);
        }
        int[][] due = {{10, 1, 43}, {10, 1, 61}, {10, 1, 44}};
        EXPECT.faults("by the page's one before it", rows, due);
        EXPECT.faults("nothing stays of the check before", rows, due);

        StructureRows other = new StructureRows();
        other.shows(0, 0);
        other.shows(0, 1);
        other.element(0, 12);
        other.content(1, 0, 1);
        other.content(0, 0, 0);
        EXPECT.faults("artefacts are not read", other);
    }

    private static void allKindsInOrder() {
        StructureRows rows = new StructureRows();
        rows.shows(1, 1);
        rows.shows(1, 2);
        rows.shows(1, 3);
        rows.content(0, 1, 2);
        rows.content(0, 1, 1);
        rows.content(0, 1, 1);
        rows.element(0, 10);
        rows.element(0, 6);
        rows.element(2, 7);
        rows.element(2, 7);
        rows.element(3, 9);
        rows.content(5, 0, 0);
        rows.element(0, 5);
        rows.element(0, 2);
        rows.heading(7, 6);
        rows.element(0, 2);
        rows.element(0, 100);
        EXPECT.faults("one of each", rows, Expect.row(1, 9, 0), Expect.row(2, 8, 0), Expect.row(3, 7, 6),
                Expect.row(4, 6, 0), Expect.row(5, 2, 0), Expect.row(6, 1, 0), Expect.row(7, 4, 0),
                Expect.row(7, 6, 0), Expect.row(7, 7, 0), Expect.row(7, 8, 0), Expect.row(7, 9, 0),
                Expect.row(8, 0, 21), Expect.row(9, -1, 23), Expect.row(10, 0, 21));
    }

    /** As many faults as 512 calls can bring about: nothing is cut off. */
    private static void mostFaults() {
        StructureRows rows = new StructureRows();
        for (int page = 0; page < 10; page++) {
            for (int mark = 19; mark >= 0; mark--) {
                rows.shows(page, mark);
            }
        }
        for (int part = 0; part < 100; part++) {
            rows.content(0, part / 20, part % 20);
        }
        for (int told = 0; told < 40; told++) {
            rows.content(0, 0, 0);
        }
        rows.element(0, 4);
        for (int number = 2; number < 60; number++) {
            rows.element(1, 100);
        }
        // 58 without a standard, misplaced and without kids; 40 repeats; 100 untagged; 95 late.
        EXPECT.is("check()", rows.check(), 58 * 3 + 40 + 100 + 95);
        EXPECT.is("the last one's kind", rows.fault(408, 0), 10);
        EXPECT.is("the last one's number", rows.fault(408, 2), 99);
    }
}
