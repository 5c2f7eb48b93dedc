import java.util.Random;

/** Long runs of calls, by fixed seeds, on the class and on the model: both must answer alike. */
public final class ModelTest {
    private static final int RUNS = 3000;
    private static final int CALLS = 512;
    private static final int[] STRANGE = {-2, -1, 0, 1, 2, 3, 9, 10, 13, 20, 59, 60, 99, 100, 120, 200,
        Integer.MIN_VALUE, Integer.MAX_VALUE};

    private final Expect expect;
    private final Random random;
    private final int style;
    private final StructureRows rows = new StructureRows();
    private final Model model = new Model();
    private int elements = 1;
    private int faults = 0;

    private ModelTest(Expect expect, int seed) {
        this.expect = expect;
        this.random = new Random(seed);
        this.style = seed % 4;
    }

    public static void main(String[] args) {
        Expect expect = new Expect();
        for (int seed = 0; seed < RUNS; seed++) {
            ModelTest run = new ModelTest(expect, seed);
            for (int call = 0; call < CALLS; call++) {
                run.makeCall("run " + seed + ", call " + call);
            }
            new ModelTest(expect, seed).makeTables("tables " + seed);
        }
        expect.end();
    }

    private void makeCall(String when) {
        int kind = random.nextInt(20);
        int a = someElement();
        int b = random.nextInt(40) == 0 ? strange() : random.nextInt(3);
        switch (kind) {
            case 0: case 1: case 2: case 3: makeElement(when, a); break;
            case 4: makeMap(when); break;
            case 5: case 6: case 7: makeContent(when, a); break;
            case 8: case 9: makeShows(when); break;
            case 10: compare(when + " walk", rows::walk, model::walk); break;
            case 11: int part = number(110); compare(when + " at", () -> rows.at(part, b), () -> model.at(part, b));
                break;
            case 12: int page = number(10); int mark = number(20);
                compare(when + " parent", () -> rows.parent(page, mark), () -> model.parent(page, mark)); break;
            case 13: faults = compare(when + " check", rows::check, model::check); compareFaults(when); break;
            case 14: int i = number(50); compare(when + " fault", () -> rows.fault(i, b), () -> model.fault(i, b));
                break;
            case 15: int level = 1 + number(6);
                compare(when + " heading", () -> rows.heading(a, level), () -> model.heading(a, level)); break;
            case 16: boolean has = random.nextBoolean();
                compare(when + " words", () -> rows.words(a, has), () -> model.words(a, has)); break;
            case 17: int down = 1 + number(3); int right = 1 + number(3);
                compare(when + " span", () -> rows.span(a, down, right), () -> model.span(a, down, right)); break;
            case 18: int heading = number(12) - 1;
                compare(when + " outline", () -> rows.outline(heading, b), () -> model.outline(heading, b)); break;
            default: int shown = number(30) - 1;
                compare(when + " untagged", () -> rows.untagged(shown), () -> model.untagged(shown)); break;
        }
    }

    /** Well-formed tables with small spans, many of which are even: calls at will hardly ever make one. */
    private void makeTables(String when) {
        int columns = 1 + random.nextInt(4);
        while (elements < 39) {
            int table = elements;
            add(0, 6);
            int tableRows = 1 + random.nextInt(4);
            for (int row = 0; row < tableRows; row++) {
                int rowElement = elements;
                add(table, 7);
                int cells = random.nextInt(columns + 1);
                for (int cell = 0; cell < cells; cell++) {
                    int added = elements;
                    add(rowElement, 8 + random.nextInt(2));
                    int down = 1 + random.nextInt(2);
                    int right = 1 + random.nextInt(2);
                    compare(when + " span", () -> rows.span(added, down, right), () -> model.span(added, down, right));
                }
            }
        }
        faults = compare(when + " check", rows::check, model::check);
        compareFaults(when);
    }

    private void add(int parent, int role) {
        compare("element " + elements, () -> rows.element(parent, role), () -> model.element(parent, role));
        elements++;
    }

    private void makeElement(String when, int parent) {
        int role = someRole();
        int made = compare(when + " element", () -> rows.element(parent, role), () -> model.element(parent, role));
        elements = made >= elements ? made + 1 : elements;
    }

    private void makeMap(String when) {
        int role = random.nextInt(30) == 0 ? strange() : 100 + random.nextInt(6);
        int to = random.nextInt(30) == 0 ? strange() : random.nextInt(3) == 0 ? 100 + random.nextInt(6)
            : random.nextInt(13);
        compare(when + " map", () -> rows.map(role, to), () -> model.map(role, to));
    }

    private void makeContent(String when, int element) {
        int page = style == 0 ? number(2) : number(10);
        int mark = number(20);
        compare(when + " content", () -> rows.content(element, page, mark),
            () -> model.content(element, page, mark));
    }

    private void makeShows(String when) {
        int page = style == 0 ? number(2) : number(10);
        int mark = number(20);
        compare(when + " shows", () -> rows.shows(page, mark), () -> model.shows(page, mark));
    }

    private void compareFaults(String when) {
        for (int i = 0; i <= faults; i++) {
            for (int what = 0; what < 3; what++) {
                int fault = i;
                int asked = what;
                compare(when + " fault " + i, () -> rows.fault(fault, asked), () -> model.fault(fault, asked));
            }
        }
    }

    private int someElement() {
        if (random.nextInt(40) == 0) {
            return strange();
        }
        // Late ones make deep trees, and tables whose rows have several cells.
        return random.nextBoolean() ? random.nextInt(elements) : Math.max(0, elements - 1 - random.nextInt(4));
    }

    private int someRole() {
        int choice = random.nextInt(30);
        if (choice == 0) {
            return strange();
        }
        if (style == 1) {
            return new int[] {6, 7, 7, 8, 9, 9, 12, 104}[random.nextInt(8)];
        }
        if (style == 2) {
            return new int[] {2, 2, 2, 3, 100, 12}[random.nextInt(6)];
        }
        return choice < 8 ? 100 + random.nextInt(6) : 1 + random.nextInt(12);
    }

    private int number(int below) {
        return random.nextInt(40) == 0 ? strange() : random.nextInt(below);
    }

    private int strange() {
        return STRANGE[random.nextInt(STRANGE.length)];
    }

    /** Answers what the class answered, or -1 when both threw the same. */
    private int compare(String when, Expect.Call real, Expect.Call due) {
        int wanted;
        try {
            wanted = due.answer();
        } catch (RuntimeException thrown) {
            expect.refuses(when, thrown.getClass(), real);
            return -1;
        }
        int got = expect.answerOf(when, real);
        expect.is(when, got, wanted);
        return got;
    }
}
