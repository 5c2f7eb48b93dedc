/** The fifth paragraph of the terms: each kind of fault, and the order in which they are told. */
public final class TermsFaultsTest {
    private static final Expect EXPECT = new Expect();

    public static void main(String[] args) {
        EXPECT.sentence("in the order of their kinds, within a kind in the order that is told",
                TermsFaultsTest::order);
        EXPECT.sentence("an element (by numbers) whose role has no standard", TermsFaultsTest::noStandard);
        EXPECT.sentence("a heading (by numbers) without a level", TermsFaultsTest::noLevel);
        EXPECT.sentence("a heading, in the walk, whose level is more than one greater than that of the heading with"
                + " a level before it", TermsFaultsTest::leaps);
        EXPECT.sentence("of the first one: than 0", TermsFaultsTest::firstLevel);
        EXPECT.sentence("the number is its level", TermsFaultsTest::levelAsNumber);
        EXPECT.sentence("an item and not a list's kid", () -> mustBeKidOf(5, 4));
        EXPECT.sentence("a kid of a list that is none (and no artefact)", () -> mayHold(4, 5, 5));
        EXPECT.sentence("a row, and no table's kid", () -> mustBeKidOf(7, 6));
        EXPECT.sentence("a kid of a table that is no row (and no artefact)", () -> mayHold(6, 7, 7));
        EXPECT.sentence("a head or cell, and no row's kid", TermsFaultsTest::headsAndCells);
        EXPECT.sentence("a kid of a row that is neither (and no artefact)", () -> mayHold(7, 8, 9));
        EXPECT.sentence("each element once", TermsFaultsTest::once);
        EXPECT.sentence("a figure (by numbers) without words", TermsFaultsTest::noWords);
        EXPECT.sentence("an element (by numbers) without kids, but a figure, or the document",
                TermsFaultsTest::noKids);
        EXPECT.sentence("a marked part that was told once more (in that order)", TermsFaultsTest::toldOnceMore);
        EXPECT.sentence("the number is 20 times its page, and its mark; the element the one that it was told for",
                TermsFaultsTest::numberOfAPart);
        EXPECT.sentence("a mark that a page shows (by pages, as they are shown), in no element",
                TermsFaultsTest::inNoElement);
        EXPECT.sentence("no element (-1)", TermsFaultsTest::noElement);
        EXPECT.sentence("a marked part, in the walk, that its page shows before one of the same page that came in"
                + " the walk just before it", TermsFaultsTest::shownBefore);
        EXPECT.sentence("(of those that it shows)", TermsFaultsTest::ofThoseShown);
        EXPECT.sentence("number and element likewise", TermsFaultsTest::numberOfALatePart);
        EXPECT.sentence("(Elements in artefacts have faults, too, but in the walk.)", TermsFaultsTest::artefacts);
        EXPECT.end();
    }

    /** Two of each kind, all told in another order than the one in which they were made. */
    private static void order() {
        StructureRows rows = new StructureRows();
        rows.shows(9, 0);
        rows.shows(0, 2);
        rows.shows(0, 1);
        rows.shows(0, 0);
        rows.content(0, 0, 0);
        rows.content(0, 0, 1);
        rows.content(0, 0, 1);
        rows.content(0, 0, 0);
        rows.shows(8, 0);
        rows.content(0, 0, 2);
        int outer = rows.element(0, 11);
        int figure = rows.element(0, 10);
        int firstFigure = rows.element(outer, 10);
        int late = Tables.add(rows, 0, new int[] {}, new int[] {11});
        int soon = Tables.add(rows, outer, new int[] {}, new int[] {11});
        int item = rows.element(0, 5);
        int firstItem = rows.element(outer, 5);
        int leap = rows.element(0, 2);
        int bare = rows.element(0, 2);
        int firstLeap = rows.element(outer, 2);
        int firstBare = rows.element(outer, 2);
        rows.heading(leap, 6);
        rows.heading(firstLeap, 4);
        int unknown = rows.element(0, 100);
        int firstUnknown = rows.element(outer, 101);
        EXPECT.faults("two of each and more without kids", rows, Expect.row(1, unknown, 0),
                Expect.row(1, firstUnknown, 0), Expect.row(2, bare, 0), Expect.row(2, firstBare, 0),
                Expect.row(3, firstLeap, 4), Expect.row(3, leap, 6), Expect.row(4, item, 0),
                Expect.row(4, firstItem, 0), Expect.row(5, late, 0), Expect.row(5, soon, 0),
                Expect.row(6, figure, 0), Expect.row(6, firstFigure, 0), Expect.row(7, late + 1, 0),
                Expect.row(7, late + 3, 0), Expect.row(7, soon + 1, 0), Expect.row(7, soon + 3, 0),
                Expect.row(7, item, 0), Expect.row(7, firstItem, 0), Expect.row(7, leap, 0), Expect.row(7, bare, 0),
                Expect.row(7, firstLeap, 0), Expect.row(7, firstBare, 0), Expect.row(7, unknown, 0),
                Expect.row(7, firstUnknown, 0), Expect.row(8, 0, 1), Expect.row(8, 0, 0), Expect.row(9, -1, 160),
                Expect.row(9, -1, 180), Expect.row(10, 0, 1), Expect.row(10, 0, 2));
    }

    private static void noStandard() {
        StructureRows rows = new StructureRows();
        for (int role = 1; role <= 12; role++) {
            rows.element(0, role);
        }
        EXPECT.faultsOfKind("standard roles have one", rows, 1);
        rows.element(0, 119);
        rows.element(0, 100);
        rows.element(1, 119);
        EXPECT.faultsOfKind("by numbers, not as they are read", rows, 1, Expect.row(13, 0), Expect.row(14, 0),
                Expect.row(15, 0));
        rows.map(119, 100);
        EXPECT.faultsOfKind("mapped to one that has none", rows, 1, Expect.row(13, 0), Expect.row(14, 0),
                Expect.row(15, 0));
        rows.map(100, 0);
        EXPECT.faultsOfKind("the document's role is a standard one", rows, 1);
    }

    private static void noLevel() {
        StructureRows rows = new StructureRows();
        rows.element(0, 2);
        rows.element(0, 2);
        rows.element(1, 2);
        rows.element(1, 100);
        EXPECT.faultsOfKind("by numbers, not as they are read", rows, 2, Expect.row(1, 0), Expect.row(2, 0),
                Expect.row(3, 0));
        EXPECT.refuses("heading(1, 0)", Expect.BAD_ARGUMENT, () -> rows.heading(1, 0));
        EXPECT.refuses("heading(1, 7)", Expect.BAD_ARGUMENT, () -> rows.heading(1, 7));
        rows.heading(2, 1);
        rows.heading(3, 6);
        EXPECT.faultsOfKind("the least level and the greatest are levels", rows, 2, Expect.row(1, 0));
        rows.map(100, 2);
        EXPECT.faultsOfKind("one by its standard", rows, 2, Expect.row(1, 0), Expect.row(4, 0));
    }

    private static void leaps() {
        for (int before = 1; before <= 6; before++) {
            for (int level = 1; level <= 6; level++) {
                StructureRows rows = new StructureRows();
                // A way up to the one before, without a leap.
                for (int step = 1; step <= before; step++) {
                    rows.heading(rows.element(0, 2), step);
                }
                int element = rows.element(0, 2);
                rows.heading(element, level);
                String when = "level " + level + " behind level " + before;
                if (level - before >= 2) {
                    EXPECT.faultsOfKind(when, rows, 3, Expect.row(element, level));
                } else {
                    EXPECT.faultsOfKind(when, rows, 3);
                }
            }
        }
        StructureRows rows = new StructureRows();
        rows.heading(rows.element(0, 2), 1);
        rows.element(0, 2);
        rows.heading(rows.element(0, 3), 2);
        rows.heading(rows.element(0, 2), 3);
        EXPECT.faultsOfKind("neither one without a level nor a paragraph is the one before", rows, 3,
                Expect.row(4, 3));
        rows.heading(rows.element(1, 2), 2);
        EXPECT.faultsOfKind("the one before in the walk, not by numbers", rows, 3);
    }

    private static void firstLevel() {
        for (int level = 1; level <= 6; level++) {
            StructureRows rows = new StructureRows();
            rows.element(0, 2);
            rows.heading(rows.element(0, 2), level);
            if (level == 1) {
                EXPECT.faultsOfKind("level 1 first", rows, 3);
            } else {
                EXPECT.faultsOfKind("level " + level + " first", rows, 3, Expect.row(2, level));
            }
        }
    }

    private static void levelAsNumber() {
        StructureRows rows = new StructureRows();
        int[] levels = {2, 4, 6, 1, 6};
        for (int level : levels) {
            rows.heading(rows.element(0, 2), level);
        }
        EXPECT.faultsOfKind("leap after leap", rows, 3, Expect.row(1, 2), Expect.row(2, 4), Expect.row(3, 6),
                Expect.row(5, 6));
    }

    /** An element of the role in each holder, and in what lies in the right one. */
    private static void mustBeKidOf(int role, int right) {
        StructureRows rows = new StructureRows();
        rows.element(0, role);
        EXPECT.faultsOfKind("role " + role + " in the document", rows, 4, Expect.row(1, 0));
        for (int holder = 1; holder <= 12; holder++) {
            StructureRows held = new StructureRows();
            int outer = held.element(0, holder);
            int inner = held.element(outer, role);
            EXPECT.is("role " + role + " in role " + holder, timesTold(held, inner), holder == right ? 0 : 1);
        }
        StructureRows deeper = new StructureRows();
        int artefact = deeper.element(deeper.element(0, right), 12);
        int kid = deeper.element(artefact, role);
        int ownsKid = deeper.element(deeper.element(0, 100), role);
        EXPECT.is("role " + role + " in an artefact in a right one", timesTold(deeper, kid), 1);
        EXPECT.is("role " + role + " in one without a standard", timesTold(deeper, ownsKid), 1);
        deeper.map(100, right);
        EXPECT.is("role " + role + " in one by its standard", timesTold(deeper, ownsKid), 0);
    }

    /** Each role in the holder: only those from the first to the last, and artefacts, may be there. */
    private static void mayHold(int holder, int first, int last) {
        for (int role = 1; role <= 12; role++) {
            StructureRows rows = new StructureRows();
            int kid = rows.element(rows.element(0, holder), role);
            boolean may = role >= first && role <= last || role == 12;
            EXPECT.is("role " + role + " in role " + holder, timesTold(rows, kid), may ? 0 : 1);
        }
        StructureRows rows = new StructureRows();
        int outer = rows.element(0, holder);
        int own = rows.element(outer, 119);
        EXPECT.is("one without a standard", timesTold(rows, own), 1);
        rows.map(119, 0);
        EXPECT.is("one whose standard is the document's role", timesTold(rows, own), 1);
        rows.map(119, first);
        EXPECT.is("one by its standard", timesTold(rows, own), 0);
        rows.map(119, 12);
        EXPECT.is("an artefact by its standard", timesTold(rows, own), 0);
        rows.content(outer, 0, 0);
        EXPECT.is("a marked part is no element", timesTold(rows, own) + timesTold(rows, -1), 0);
        int inArtefact = rows.element(own, 3);
        EXPECT.is("an artefact's kid is not the holder's", timesTold(rows, inArtefact), 0);
    }

    private static int timesTold(StructureRows rows, int element) {
        int times = 0;
        for (int i = rows.check() - 1; i >= 0; i--) {
            if (rows.fault(i, 0) == 4 && rows.fault(i, 1) == element) {
                times++;
                EXPECT.is("its number", rows.fault(i, 2), 0);
            }
        }
        return times;
    }

    private static void headsAndCells() {
        mustBeKidOf(8, 7);
        mustBeKidOf(9, 7);
    }

    private static void once() {
        int[][] wrongTwice = {{4, 7}, {4, 8}, {4, 9}, {6, 5}, {6, 8}, {6, 9}, {7, 5}, {7, 7}};
        for (int[] pair : wrongTwice) {
            StructureRows rows = new StructureRows();
            int kid = rows.element(rows.element(0, pair[0]), pair[1]);
            EXPECT.is("role " + pair[1] + " in role " + pair[0], timesTold(rows, kid), 1);
        }
        StructureRows many = new StructureRows();
        int[][] due = new int[57][];
        many.element(0, 6);
        many.element(0, 3);
        for (int number = 3; number < 60; number++) {
            many.element(number % 2 + 1, 9);
            due[number - 3] = Expect.row(number, 0);
        }
        EXPECT.faultsOfKind("57 of them, by numbers", many, 4, due);
    }

    private static void noWords() {
        StructureRows rows = new StructureRows();
        rows.element(0, 10);
        rows.element(0, 10);
        rows.element(1, 10);
        rows.element(0, 100);
        EXPECT.faultsOfKind("by numbers, not as they are read", rows, 6, Expect.row(1, 0), Expect.row(2, 0),
                Expect.row(3, 0));
        rows.words(2, true);
        rows.words(3, true);
        rows.words(3, false);
        EXPECT.faultsOfKind("one has words, one has none any more", rows, 6, Expect.row(1, 0), Expect.row(3, 0));
        rows.map(100, 10);
        EXPECT.faultsOfKind("one by its standard", rows, 6, Expect.row(1, 0), Expect.row(3, 0), Expect.row(4, 0));
    }

    private static void noKids() {
        StructureRows none = new StructureRows();
        EXPECT.faults("the document", none);
        for (int role = 1; role <= 12; role++) {
            StructureRows rows = new StructureRows();
            rows.element(0, role);
            if (role == 10) {
                EXPECT.faultsOfKind("a figure", rows, 7);
            } else {
                EXPECT.faultsOfKind("role " + role, rows, 7, Expect.row(1, 0));
            }
        }
        StructureRows rows = new StructureRows();
        rows.element(0, 3);
        rows.element(0, 3);
        rows.element(1, 12);
        rows.content(0, 0, 0);
        rows.content(2, 0, 0);
        rows.shows(5, 5);
        EXPECT.faultsOfKind("an artefact is a kid, a part told once more is none", rows, 7, Expect.row(2, 0),
                Expect.row(3, 0));
        rows.content(3, 5, 5);
        EXPECT.faultsOfKind("a part is a kid", rows, 7, Expect.row(2, 0));
        rows.element(0, 100);
        rows.map(100, 10);
        EXPECT.faultsOfKind("a figure by its standard", rows, 7, Expect.row(2, 0));
        rows.map(100, 0);
        EXPECT.faultsOfKind("one with the document's role is not the document", rows, 7, Expect.row(2, 0),
                Expect.row(4, 0));
    }

    private static void toldOnceMore() {
        for (int times : new int[] {0, 1, 39, 40, 41, 100}) {
            StructureRows rows = new StructureRows();
            rows.content(0, 0, 0);
            rows.content(0, 9, 19);
            int[][] due = new int[Math.min(times, 40)][];
            for (int told = 0; told < times; told++) {
                boolean last = told % 3 == 0;
                EXPECT.is("told once more", rows.content(0, last ? 9 : 0, last ? 19 : 0), 0);
                if (told < 40) {
                    due[told] = Expect.row(8, 0, last ? 199 : 0);
                }
            }
            EXPECT.faults(times + " times", rows, due);
        }
    }

    private static void numberOfAPart() {
        int[][] corners = {{0, 0, 0}, {0, 19, 19}, {1, 0, 20}, {9, 0, 180}, {9, 19, 199}};
        for (int[] corner : corners) {
            StructureRows rows = new StructureRows();
            rows.element(0, 3);
            rows.content(1, corner[0], corner[1]);
            rows.content(0, corner[0], corner[1]);
            rows.content(1, corner[0], corner[1]);
            EXPECT.faults("page " + corner[0] + ", mark " + corner[1], rows, Expect.row(8, 0, corner[2]),
                    Expect.row(8, 1, corner[2]));
        }
    }

    private static void inNoElement() {
        StructureRows rows = new StructureRows();
        int[][] due = new int[100][];
        for (int shown = 0; shown < 100; shown++) {
            int page = 9 - shown % 10;
            rows.shows(page, 19 - shown / 10);
            due[10 * page + shown / 10] = Expect.row(9, -1, 20 * page + 19 - shown / 10);
        }
        EXPECT.faults("100 of ten pages", rows, due);

        StructureRows tagged = new StructureRows();
        tagged.element(0, 12);
        tagged.shows(3, 3);
        tagged.shows(3, 4);
        tagged.content(1, 3, 3);
        tagged.content(0, 4, 4);
        EXPECT.faults("one in an artefact is in an element", tagged, Expect.row(9, -1, 64));
        tagged.content(1, 3, 4);
        EXPECT.faults("none is left", tagged);
    }

    private static void noElement() {
        StructureRows rows = new StructureRows();
        rows.shows(0, 0);
        rows.shows(9, 19);
        EXPECT.faults("the least and the greatest", rows, Expect.row(9, -1, 0), Expect.row(9, -1, 199));
    }

    private static void shownBefore() {
        StructureRows rows = new StructureRows();
        for (int mark = 0; mark < 20; mark++) {
            rows.shows(9, 19 - mark);
            rows.shows(0, mark);
        }
        for (int mark = 0; mark < 20; mark++) {
            rows.content(0, 0, mark);
        }
        EXPECT.faultsOfKind("as the page shows them", rows, 10);
        int[][] due = new int[19][];
        rows.content(0, 9, 0);
        for (int mark = 1; mark < 20; mark++) {
            rows.content(0, 9, mark);
            due[mark - 1] = Expect.row(0, 180 + mark);
        }
        EXPECT.faultsOfKind("the other way round", rows, 10, due);

        StructureRows justBefore = new StructureRows();
        for (int mark = 0; mark < 5; mark++) {
            justBefore.shows(1, mark);
        }
        int[] read = {4, 0, 1, 3, 2};
        for (int mark : read) {
            justBefore.content(0, 1, mark);
        }
        EXPECT.faults("by the one just before, not by all before", justBefore, Expect.row(10, 0, 20),
                Expect.row(10, 0, 22));

        StructureRows walked = new StructureRows();
        walked.shows(0, 0);
        walked.shows(0, 1);
        walked.element(0, 3);
        walked.content(0, 0, 0);
        EXPECT.is("told behind, read ahead", walked.content(1, 0, 1), 1);
        EXPECT.faults("in the walk, not as they were told", walked, Expect.row(10, 0, 0));
    }

    private static void ofThoseShown() {
        StructureRows rows = new StructureRows();
        rows.shows(2, 1);
        rows.shows(2, 2);
        rows.content(0, 2, 0);
        rows.content(0, 2, 2);
        rows.content(0, 2, 5);
        rows.content(0, 3, 5);
        rows.content(0, 2, 1);
        rows.content(0, 2, 6);
        EXPECT.faults("one that is not shown and one of another page between", rows, Expect.row(10, 0, 41));
        rows.shows(2, 5);
        EXPECT.faults("it is shown now", rows, Expect.row(10, 0, 41));
        rows.shows(2, 6);
        EXPECT.faults("and the last", rows, Expect.row(10, 0, 41));
        rows.shows(2, 0);
        EXPECT.faults("and the first, as the last", rows, Expect.row(10, 0, 42), Expect.row(10, 0, 41));

        StructureRows apart = new StructureRows();
        apart.shows(0, 1);
        apart.shows(1, 0);
        apart.shows(1, 1);
        apart.content(0, 1, 1);
        apart.content(0, 0, 1);
        EXPECT.faultsOfKind("each page for itself", apart, 10);
    }

    private static void numberOfALatePart() {
        StructureRows rows = new StructureRows();
        rows.shows(9, 19);
        rows.shows(9, 18);
        rows.shows(0, 0);
        rows.shows(0, 1);
        rows.element(0, 3);
        rows.content(0, 9, 18);
        rows.content(0, 0, 1);
        rows.element(0, 3);
        rows.content(1, 5, 5);
        rows.content(2, 9, 19);
        rows.content(2, 0, 0);
        EXPECT.faults("the greatest and the least", rows, Expect.row(10, 2, 199), Expect.row(10, 2, 0));
    }

    private static void artefacts() {
        StructureRows rows = new StructureRows();
        int artefact = rows.element(0, 12);
        rows.shows(0, 0);
        rows.shows(0, 1);
        rows.content(artefact, 0, 1);
        rows.content(artefact, 0, 0);
        rows.content(artefact, 0, 0);
        int unknown = rows.element(artefact, 100);
        int bare = rows.element(artefact, 2);
        int leap = rows.element(artefact, 2);
        rows.heading(leap, 6);
        int item = rows.element(artefact, 5);
        int table = Tables.add(rows, artefact, new int[] {}, new int[] {11});
        int figure = rows.element(artefact, 10);
        EXPECT.faults("all kinds but leaps and late parts", rows, Expect.row(1, unknown, 0), Expect.row(2, bare, 0),
                Expect.row(4, item, 0), Expect.row(5, table, 0), Expect.row(6, figure, 0),
                Expect.row(7, unknown, 0), Expect.row(7, bare, 0), Expect.row(7, leap, 0), Expect.row(7, item, 0),
                Expect.row(7, table + 1, 0), Expect.row(7, table + 3, 0), Expect.row(8, artefact, 0));
        int behind = rows.element(0, 2);
        rows.heading(behind, 2);
        EXPECT.faultsOfKind("no artefact's heading is the one before", rows, 3, Expect.row(behind, 2));
    }
}
