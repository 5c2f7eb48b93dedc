/** The second paragraph of the terms: roles, and the standards of own ones. */
public final class TermsRolesTest {
    private static final Expect EXPECT = new Expect();

    public static void main(String[] args) {
        EXPECT.sentence("12 artefact are STANDARD", TermsRolesTest::standardRoles);
        EXPECT.sentence("100 .. 119 are OWN roles", TermsRolesTest::ownRoles);
        EXPECT.sentence("each mapped to another role, or not", TermsRolesTest::mappedOrNot);
        EXPECT.sentence("THE STANDARD of an own role is the standard one to which its maps lead",
                TermsRolesTest::whereMapsLead);
        EXPECT.sentence("or there is none", TermsRolesTest::mapsThatLeadNowhere);
        EXPECT.sentence("nothing is such then", TermsRolesTest::nothingIsSuch);
        EXPECT.end();
    }

    private static void standardRoles() {
        StructureRows rows = new StructureRows();
        for (int role = 1; role <= 12; role++) {
            EXPECT.is("element(0, " + role + ")", rows.element(0, role), role);
            int standard = role;
            EXPECT.refuses("map(" + role + ", 3)", Expect.BAD_ARGUMENT, () -> rows.map(standard, 3));
        }
        EXPECT.refuses("element(0, 0)", Expect.BAD_ARGUMENT, () -> rows.element(0, 0));
        for (int role : Expect.outside(0, 12)) {
            EXPECT.refuses("element(0, " + role + ")", Expect.BAD_ARGUMENT, () -> rows.element(0, role));
        }
        for (int to = 0; to <= 12; to++) {
            EXPECT.is("map(100, " + to + ")", rows.map(100, to), 1);
        }
        EXPECT.faultsOfKind("all have a standard", rows, 1);
    }

    private static void ownRoles() {
        StructureRows rows = new StructureRows();
        for (int role = 100; role <= 119; role++) {
            EXPECT.is("element(0, " + role + ")", rows.element(0, role), role - 99);
            EXPECT.is("map(" + role + ", 12)", rows.map(role, 12), 1);
        }
        for (int role : Expect.outside(100, 119)) {
            EXPECT.refuses("element(0, " + role + ")", Expect.BAD_ARGUMENT, () -> rows.element(0, role));
            EXPECT.refuses("map(" + role + ", 12)", Expect.BAD_ARGUMENT, () -> rows.map(role, 12));
            EXPECT.refuses("map(100, " + role + ")", Expect.BAD_ARGUMENT, () -> rows.map(100, role));
        }
        EXPECT.faultsOfKind("all are mapped", rows, 1);
    }

    private static void mappedOrNot() {
        StructureRows rows = new StructureRows();
        rows.element(0, 100);
        rows.element(0, 119);
        rows.content(1, 0, 0);
        rows.content(2, 0, 1);
        EXPECT.faults("neither is", rows, Expect.row(1, 1, 0), Expect.row(1, 2, 0));
        rows.map(119, 3);
        EXPECT.faults("the last is", rows, Expect.row(1, 1, 0));
        rows.map(100, 119);
        EXPECT.faults("the first is, to the last", rows);
    }

    /** From one map to as many as there are own roles, upwards and downwards. */
    private static void whereMapsLead() {
        for (int maps = 1; maps <= 20; maps++) {
            StructureRows up = new StructureRows();
            StructureRows down = new StructureRows();
            for (int step = 1; step < maps; step++) {
                up.map(99 + step, 100 + step);
                down.map(120 - step, 119 - step);
            }
            up.map(99 + maps, 10);
            down.map(120 - maps, 10);
            up.element(0, 100);
            down.element(0, 119);
            EXPECT.faults(maps + " maps upwards", up, Expect.row(6, 1, 0));
            EXPECT.faults(maps + " maps downwards", down, Expect.row(6, 1, 0));
        }
        StructureRows rows = new StructureRows();
        rows.element(0, 100);
        rows.content(1, 0, 0);
        rows.map(100, 110);
        rows.map(110, 119);
        rows.map(119, 12);
        EXPECT.walk("an artefact", rows);
        rows.map(110, 1);
        EXPECT.walk("a map in the middle leads elsewhere", rows, Expect.row(0, 0, 1));
    }

    private static void mapsThatLeadNowhere() {
        for (int maps = 0; maps <= 19; maps++) {
            StructureRows rows = new StructureRows();
            for (int step = 0; step < maps; step++) {
                rows.map(100 + step, 101 + step);
            }
            rows.element(0, 100);
            rows.content(1, 0, 0);
            EXPECT.faults(maps + " maps and then none", rows, Expect.row(1, 1, 0));
        }
    }

    /** An element without a standard is no heading, figure, artefact, list, item, table, row or cell. */
    private static void nothingIsSuch() {
        StructureRows rows = new StructureRows();
        rows.element(0, 100);
        rows.heading(1, 6);
        rows.span(1, 8, 8);
        rows.content(1, 0, 0);
        for (int role = 1; role <= 4; role++) {
            rows.element(1, role);
            rows.content(1 + role, 1, role);
        }
        rows.heading(3, 1);
        EXPECT.walk("no artefact", rows, Expect.row(0, 0, 1), Expect.row(1, 1, 2), Expect.row(1, 2, 3),
                Expect.row(1, 3, 4), Expect.row(1, 4, 5));
        EXPECT.outline("no heading", rows, Expect.row(3, 0, 1));
        EXPECT.faults("none of those that have faults of their own", rows, Expect.row(1, 1, 0));

        StructureRows strict = new StructureRows();
        for (int holder : new int[] {4, 6, 7, 3}) {
            strict.content(strict.element(strict.element(0, holder), 100), 0, holder);
        }
        EXPECT.faultsOfKind("no item, no row, no cell", strict, 4, Expect.row(2, 0), Expect.row(4, 0),
                Expect.row(5, 0), Expect.row(6, 0));
        EXPECT.faultsOfKind("no figure", strict, 6);
        EXPECT.faultsOfKind("the others are as they should be", strict, 1, Expect.row(2, 0), Expect.row(4, 0),
                Expect.row(6, 0), Expect.row(8, 0));

        StructureRows empty = new StructureRows();
        empty.element(0, 119);
        EXPECT.faults("without kids, and no figure", empty, Expect.row(1, 1, 0), Expect.row(7, 1, 0));
    }
}
