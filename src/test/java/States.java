/** States that calls are refused in: each takes fewer than 260 of the 512 calls that an object is good for. */
final class States {
    private States() {
    }

    static void fresh(StructureRows rows) {
    }

    /** Something of all: elements 0 .. 6, with a check whose faults are not those of now. */
    static void middle(StructureRows rows) {
        rows.element(0, 2);
        rows.element(0, 100);
        rows.element(0, 6);
        rows.element(3, 7);
        rows.element(4, 9);
        rows.element(0, 10);
        rows.map(100, 101);
        rows.map(101, 4);
        rows.content(1, 0, 1);
        rows.content(5, 0, 0);
        rows.content(2, 9, 19);
        rows.content(0, 9, 19);
        rows.shows(0, 0);
        rows.shows(0, 1);
        rows.shows(5, 5);
        rows.words(6, true);
        rows.span(5, 2, 3);
        rows.heading(1, 2);
        rows.check();
        rows.heading(1, 3);
        rows.words(0, true);
    }

    /** 60 elements, 100 marked parts, 40 of them told once more, and a page that shows 20 marks. */
    static void full(StructureRows rows) {
        fillElements(rows);
        fillParts(rows);
        for (int told = 0; told < 40; told++) {
            rows.content(told, 4, 19);
        }
        for (int mark = 19; mark >= 0; mark--) {
            rows.shows(0, mark);
        }
        rows.map(100, 2);
        rows.heading(59, 6);
        rows.span(59, 8, 8);
        rows.words(59, true);
        rows.check();
    }

    /** Elements 1 .. 58 are paragraphs of the document, the last one has an own role. */
    static void fillElements(StructureRows rows) {
        for (int number = 1; number < 59; number++) {
            rows.element(0, 3);
        }
        rows.element(0, 100);
    }

    /** Pages 0 .. 4 with all their marks, in turn for elements 0 .. 59. */
    static void fillParts(StructureRows rows) {
        for (int part = 0; part < 100; part++) {
            rows.content(part % 60, part / 20, part % 20);
        }
    }
}
