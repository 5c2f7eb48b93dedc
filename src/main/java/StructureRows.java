import java.util.Arrays;
import java.util.NoSuchElementException;

/**
 * The structure of a document: elements in a tree, marked parts of pages in them, the order in which all is
 * read, and what is wrong with it for those who have it read to them.
 */
public final class StructureRows {
    private static final int NONE = -1;

    private static final int MOST_ELEMENTS = 60;
    private static final int MOST_PARTS = 100;
    private static final int MOST_NODES = MOST_ELEMENTS + MOST_PARTS;
    private static final int MOST_REPEATS = 40;
    private static final int PAGES = 10;
    private static final int MARKS = 20;
    private static final int TAGS = PAGES * MARKS;
    private static final int MOST_LEVEL = 6;
    private static final int MOST_SPAN = 8;

    // Every place before a cell is taken by another cell, so no row is wider than all cells side by side.
    private static final int MOST_PLACES = MOST_ELEMENTS * MOST_SPAN;

    // Seven kinds tell an element at most once each; then come repeats, shown marks and parts of the walk.
    private static final int MOST_FAULTS = 7 * MOST_ELEMENTS + MOST_REPEATS + TAGS + MOST_PARTS;

    private static final int DOCUMENT = 0;
    private static final int HEADING = 2;
    private static final int LIST = 4;
    private static final int ITEM = 5;
    private static final int TABLE = 6;
    private static final int ROW = 7;
    private static final int HEAD = 8;
    private static final int CELL = 9;
    private static final int FIGURE = 10;
    private static final int ARTEFACT = 12;
    private static final int FIRST_OWN = 100;
    private static final int OWN_ROLES = 20;

    private static final int NO_STANDARD = 1;
    private static final int NO_LEVEL = 2;
    private static final int LEVEL_LEAP = 3;
    private static final int MISPLACED = 4;
    private static final int UNEVEN = 5;
    private static final int NO_WORDS = 6;
    private static final int NO_KIDS = 7;
    private static final int REPEATED = 8;
    private static final int UNTAGGED = 9;
    private static final int READ_LATE = 10;

    private final Roles roles;
    private final Tree tree;
    private final Traits traits;
    private final Pages pages;
    private final Repeats repeats;
    private final Reading reading;
    private final Faults faults;
    private final Inspection inspection;

    public StructureRows() {
        roles = new Roles();
        tree = new Tree();
        traits = new Traits();
        pages = new Pages(tree);
        repeats = new Repeats();
        reading = new Reading(tree, traits);
        faults = new Faults();
        inspection = new Inspection(tree, traits, pages, repeats, reading, faults);
    }

    public int element(int parent, int role)
            throws NoSuchElementException, IllegalArgumentException, UnsupportedOperationException {
        requireElement(parent);
        if (role == DOCUMENT || !Roles.isRole(role)) {
            throw new IllegalArgumentException("an element can't have this role");
        }
        if (tree.isFullOfElements()) {
            throw new UnsupportedOperationException("there are as many elements as there may be");
        }
        return tree.addElement(parent, role, roles.standardOf(role));
    }

    public int map(int role, int to) throws IllegalArgumentException {
        if (!Roles.isOwn(role)) {
            throw new IllegalArgumentException("only an own role is mapped");
        }
        if (!Roles.isRole(to)) {
            throw new IllegalArgumentException("there is no such role to map to");
        }
        if (roles.leadsTo(to, role)) {
            return 0;
        }
        roles.lead(role, to);
        tree.settleStandards(roles);
        return 1;
    }

    public int content(int element, int page, int mark)
            throws NoSuchElementException, IllegalArgumentException, UnsupportedOperationException {
        requireElement(element);
        requireMark(page, mark);
        int tag = tagOf(page, mark);
        if (tree.holderOfTag(tag) != NONE) {
            repeats.keep(element, tag);
            return 0;
        }
        if (tree.isFullOfParts()) {
            throw new UnsupportedOperationException("there are as many marked parts as there may be");
        }
        tree.addPart(element, tag);
        return 1;
    }

    public int shows(int page, int mark) throws IllegalArgumentException {
        requireMark(page, mark);
        return pages.show(page, tagOf(page, mark));
    }

    public int walk() {
        reading.follow();
        return reading.partCount();
    }

    public int at(int i, int what) throws IndexOutOfBoundsException {
        reading.follow();
        requireIndex(i, reading.partCount());
        requireWhat(what);
        int tag = reading.tagAt(i);
        if (what == 0) {
            return tag / MARKS;
        }
        return what == 1 ? tag % MARKS : tree.holderOfTag(tag);
    }

    public int parent(int page, int mark) throws IllegalArgumentException {
        requireMark(page, mark);
        return tree.holderOfTag(tagOf(page, mark));
    }

    public int check() {
        inspection.findAll();
        return faults.count();
    }

    public int fault(int i, int what) throws IndexOutOfBoundsException {
        requireIndex(i, faults.count());
        requireWhat(what);
        if (what == 0) {
            return faults.kindAt(i);
        }
        return what == 1 ? faults.elementAt(i) : faults.numberAt(i);
    }

    public int heading(int element, int level) throws NoSuchElementException, IllegalArgumentException {
        requireElement(element);
        if (level < 1 || level > MOST_LEVEL) {
            throw new IllegalArgumentException("there is no such level");
        }
        int before = traits.levelOf(element);
        traits.setLevel(element, level);
        return before;
    }

    public int words(int element, boolean has) throws NoSuchElementException {
        requireElement(element);
        boolean before = traits.hasWords(element);
        traits.setWords(element, has);
        return before ? 1 : 0;
    }

    public int span(int cell, int rows, int columns) throws NoSuchElementException, IllegalArgumentException {
        requireElement(cell);
        if (rows < 1 || rows > MOST_SPAN || columns < 1 || columns > MOST_SPAN) {
            throw new IllegalArgumentException("a cell can't span so many rows or columns");
        }
        int before = 10 * traits.rowsOf(cell) + traits.columnsOf(cell);
        traits.setSpan(cell, rows, columns);
        return before;
    }

    public int outline(int i, int what) throws IndexOutOfBoundsException {
        reading.follow();
        if (i == -1) {
            return reading.headingCount();
        }
        requireIndex(i, reading.headingCount());
        requireWhat(what);
        if (what == 0) {
            return reading.headingAt(i);
        }
        return what == 1 ? reading.depthAt(i) : reading.levelAt(i);
    }

    public int untagged(int i) throws IndexOutOfBoundsException {
        pages.gatherUntagged();
        if (i == -1) {
            return pages.untaggedCount();
        }
        requireIndex(i, pages.untaggedCount());
        return pages.untaggedAt(i);
    }

    private void requireElement(int element) {
        if (!tree.hasElement(element)) {
            throw new NoSuchElementException("there is no such element");
        }
    }

    private static void requireMark(int page, int mark) {
        if (page < 0 || page >= PAGES || mark < 0 || mark >= MARKS) {
            throw new IllegalArgumentException("there is no such page or mark");
        }
    }

    private static void requireIndex(int i, int count) {
        if (!isWithin(i, count)) {
            throw new IndexOutOfBoundsException("there is nothing at this index");
        }
    }

    private static void requireWhat(int what) {
        if (what < 0 || what > 2) {
            throw new IndexOutOfBoundsException("only 0, 1 and 2 can be asked for");
        }
    }

    private static int tagOf(int page, int mark) {
        return page * MARKS + mark;
    }

    private static boolean isWithin(int i, int count) {
        return i >= 0 && i < count;
    }

    /** Which roles there are, and to which the own ones are mapped. */
    private static final class Roles {
        private final int[] targets = new int[OWN_ROLES];

        Roles() {
            Arrays.fill(targets, NONE);
        }

        static boolean isStandard(int role) {
            return role >= DOCUMENT && role <= ARTEFACT;
        }

        static boolean isOwn(int role) {
            return role >= FIRST_OWN && role < FIRST_OWN + OWN_ROLES;
        }

        static boolean isRole(int role) {
            return isStandard(role) || isOwn(role);
        }

        void lead(int role, int to) {
            if (isOwn(role)) {
                targets[role - FIRST_OWN] = to;
            }
        }

        // A map that would lead back is never kept, so no chain has more steps than there are own roles.
        int standardOf(int role) {
            int reached = role;
            for (int step = 0; step < OWN_ROLES && isOwn(reached); step++) {
                reached = targets[reached - FIRST_OWN];
            }
            return isStandard(reached) ? reached : NONE;
        }

        boolean leadsTo(int from, int role) {
            int reached = from;
            for (int step = 0; step < OWN_ROLES && isOwn(reached); step++) {
                if (reached == role) {
                    return true;
                }
                reached = targets[reached - FIRST_OWN];
            }
            return false;
        }
    }

    /**
     * Elements and marked parts with their order as kids. Both are nodes of one numbering, since kids of both
     * sorts stand in one order: nodes below MOST_ELEMENTS are elements, those from there on are parts.
     */
    private static final class Tree {
        private final int[] roleRow = new int[MOST_ELEMENTS];
        private final int[] standards = new int[MOST_ELEMENTS];
        private final int[] firstKids = new int[MOST_ELEMENTS];
        private final int[] lastKids = new int[MOST_ELEMENTS];
        private final int[] holders = new int[MOST_NODES];
        private final int[] nextKids = new int[MOST_NODES];
        private final int[] partTags = new int[MOST_PARTS];
        private final int[] tagHolders = new int[TAGS];
        private int elements;
        private int parts;

        Tree() {
            Arrays.fill(firstKids, NONE);
            Arrays.fill(lastKids, NONE);
            Arrays.fill(holders, NONE);
            Arrays.fill(nextKids, NONE);
            Arrays.fill(tagHolders, NONE);
            roleRow[0] = DOCUMENT;
            standards[0] = DOCUMENT;
            elements = 1;
        }

        int elementCount() {
            return elements;
        }

        boolean hasElement(int element) {
            return isWithin(element, elements);
        }

        boolean isFullOfElements() {
            return elements >= MOST_ELEMENTS;
        }

        boolean isFullOfParts() {
            return parts >= MOST_PARTS;
        }

        int addElement(int holder, int role, int standard) {
            if (isFullOfElements()) {
                return NONE;
            }
            int node = elements;
            elements++;
            roleRow[node] = role;
            standards[node] = standard;
            hang(holder, node);
            return node;
        }

        void addPart(int holder, int tag) {
            if (isFullOfParts() || !isWithin(tag, TAGS)) {
                return;
            }
            int node = MOST_ELEMENTS + parts;
            partTags[parts] = tag;
            parts++;
            tagHolders[tag] = holder;
            hang(holder, node);
        }

        private void hang(int holder, int node) {
            if (!isWithin(holder, elements) || !isWithin(node, MOST_NODES)) {
                return;
            }
            int last = lastKids[holder];
            if (isWithin(last, MOST_NODES)) {
                nextKids[last] = node;
            } else {
                firstKids[holder] = node;
            }
            lastKids[holder] = node;
            holders[node] = holder;
        }

        // The standards are kept beside the roles, since they are asked for far more often than maps change.
        void settleStandards(Roles roles) {
            for (int element = 0; element < elements; element++) {
                standards[element] = roles.standardOf(roleRow[element]);
            }
        }

        /** The standard of an element's role; NONE where there is none, and for what is no element. */
        int standardOf(int node) {
            return isWithin(node, elements) ? standards[node] : NONE;
        }

        int holderOf(int node) {
            return isWithin(node, MOST_NODES) ? holders[node] : NONE;
        }

        int holderOfTag(int tag) {
            return isWithin(tag, TAGS) ? tagHolders[tag] : NONE;
        }

        /** The tag of a marked part; NONE for an element. */
        int tagOfNode(int node) {
            int part = node - MOST_ELEMENTS;
            return isWithin(part, parts) ? partTags[part] : NONE;
        }

        int firstKid(int node) {
            return isWithin(node, elements) ? firstKids[node] : NONE;
        }

        int nextKid(int node) {
            return isWithin(node, MOST_NODES) ? nextKids[node] : NONE;
        }

        /** The node that is read when a node and all in it have been read, or are passed over. */
        int nodeBehind(int node) {
            int open = node;
            for (int step = 0; step < MOST_NODES && open != NONE; step++) {
                int next = nextKid(open);
                if (next != NONE) {
                    return next;
                }
                open = holderOf(open);
            }
            return NONE;
        }
    }

    /** What is told of elements beside their roles: levels, words and spans. */
    private static final class Traits {
        private final int[] levels = new int[MOST_ELEMENTS];
        private final boolean[] worded = new boolean[MOST_ELEMENTS];
        private final int[] rowSpans = new int[MOST_ELEMENTS];
        private final int[] columnSpans = new int[MOST_ELEMENTS];

        Traits() {
            Arrays.fill(rowSpans, 1);
            Arrays.fill(columnSpans, 1);
        }

        int levelOf(int element) {
            return isWithin(element, MOST_ELEMENTS) ? levels[element] : 0;
        }

        void setLevel(int element, int level) {
            if (isWithin(element, MOST_ELEMENTS)) {
                levels[element] = level;
            }
        }

        boolean hasWords(int element) {
            return isWithin(element, MOST_ELEMENTS) && worded[element];
        }

        void setWords(int element, boolean has) {
            if (isWithin(element, MOST_ELEMENTS)) {
                worded[element] = has;
            }
        }

        int rowsOf(int element) {
            return isWithin(element, MOST_ELEMENTS) ? rowSpans[element] : 1;
        }

        int columnsOf(int element) {
            return isWithin(element, MOST_ELEMENTS) ? columnSpans[element] : 1;
        }

        void setSpan(int element, int rows, int columns) {
            if (isWithin(element, MOST_ELEMENTS)) {
                rowSpans[element] = rows;
                columnSpans[element] = columns;
            }
        }
    }

    /** The marks that pages show, in their order, and those of them that are in no element. */
    private static final class Pages {
        private final Tree tree;
        private final int[] shownCounts = new int[PAGES];
        private final int[] shownTags = new int[TAGS];
        private final int[] places = new int[TAGS];
        private final int[] untaggedRow = new int[TAGS];
        private int untaggedTags;

        Pages(Tree tree) {
            this.tree = tree;
            Arrays.fill(places, NONE);
        }

        int show(int page, int tag) {
            if (!isWithin(page, PAGES) || !isWithin(tag, TAGS) || places[tag] != NONE) {
                return 0;
            }
            int place = shownCounts[page];
            if (!isWithin(place, MARKS)) {
                return 0;
            }
            places[tag] = place;
            shownTags[page * MARKS + place] = tag;
            shownCounts[page] = place + 1;
            return place + 1;
        }

        /** The place of a mark among those that its page shows; NONE when it does not show it. */
        int placeOf(int tag) {
            return isWithin(tag, TAGS) ? places[tag] : NONE;
        }

        void gatherUntagged() {
            untaggedTags = 0;
            for (int page = 0; page < PAGES; page++) {
                gatherUntaggedOf(page);
            }
        }

        private void gatherUntaggedOf(int page) {
            for (int place = 0; place < MARKS && place < shownCounts[page]; place++) {
                int tag = shownTags[page * MARKS + place];
                if (tree.holderOfTag(tag) == NONE && untaggedTags < TAGS) {
                    untaggedRow[untaggedTags] = tag;
                    untaggedTags++;
                }
            }
        }

        int untaggedCount() {
            return untaggedTags;
        }

        int untaggedAt(int i) {
            return isWithin(i, untaggedTags) ? untaggedRow[i] : NONE;
        }
    }

    /** The marked parts that were told once more, with the elements that they were told for. */
    private static final class Repeats {
        private final int[] elementRow = new int[MOST_REPEATS];
        private final int[] tagRow = new int[MOST_REPEATS];
        private int kept;

        void keep(int element, int tag) {
            if (kept < MOST_REPEATS) {
                elementRow[kept] = element;
                tagRow[kept] = tag;
                kept++;
            }
        }

        int count() {
            return kept;
        }

        int elementAt(int i) {
            return isWithin(i, kept) ? elementRow[i] : NONE;
        }

        int tagAt(int i) {
            return isWithin(i, kept) ? tagRow[i] : NONE;
        }
    }

    /** What the walk comes to: marked parts, and the headings that have a level, with their depths. */
    private static final class Reading {
        private final Tree tree;
        private final Traits traits;
        private final int[] tagRow = new int[MOST_PARTS];
        private final int[] headingRow = new int[MOST_ELEMENTS];
        private final int[] levels = new int[MOST_ELEMENTS];
        private final int[] depths = new int[MOST_ELEMENTS];
        private int parts;
        private int headings;

        Reading(Tree tree, Traits traits) {
            this.tree = tree;
            this.traits = traits;
        }

        void follow() {
            parts = 0;
            headings = 0;
            int node = 0;
            for (int step = 0; step < MOST_NODES && node != NONE; step++) {
                boolean passedOver = tree.standardOf(node) == ARTEFACT;
                if (!passedOver) {
                    comeTo(node);
                }
                int inside = passedOver ? NONE : tree.firstKid(node);
                node = inside != NONE ? inside : tree.nodeBehind(node);
            }
        }

        private void comeTo(int node) {
            int tag = tree.tagOfNode(node);
            if (tag != NONE && parts < MOST_PARTS) {
                tagRow[parts] = tag;
                parts++;
            }
            if (tree.standardOf(node) == HEADING && traits.levelOf(node) > 0) {
                addHeading(node, traits.levelOf(node));
            }
        }

        private void addHeading(int element, int level) {
            if (headings < MOST_ELEMENTS) {
                headingRow[headings] = element;
                levels[headings] = level;
                depths[headings] = depthUnderEarlier(level);
                headings++;
            }
        }

        private int depthUnderEarlier(int level) {
            for (int i = headings - 1; i >= 0; i--) {
                if (levels[i] < level) {
                    return depths[i] + 1;
                }
            }
            return 0;
        }

        int partCount() {
            return parts;
        }

        int tagAt(int i) {
            return isWithin(i, parts) ? tagRow[i] : NONE;
        }

        int headingCount() {
            return headings;
        }

        int headingAt(int i) {
            return isWithin(i, headings) ? headingRow[i] : NONE;
        }

        int depthAt(int i) {
            return isWithin(i, headings) ? depths[i] : 0;
        }

        int levelAt(int i) {
            return isWithin(i, headings) ? levels[i] : 0;
        }
    }

    /** Lays out the cells of a table to tell whether it is uneven. */
    private static final class Layout {
        private final Tree tree;
        private final Traits traits;
        // For each place the first row that no cell laid so far reaches there.
        private final int[] freeFrom = new int[MOST_PLACES];
        private int width;

        Layout(Tree tree, Traits traits) {
            this.tree = tree;
            this.traits = traits;
        }

        boolean isUneven(int table) {
            clear();
            int row = 0;
            int endBefore = 0;
            int kid = tree.firstKid(table);
            for (int step = 0; step < MOST_NODES && kid != NONE; step++) {
                if (tree.standardOf(kid) == ROW) {
                    boolean overlaps = !layRow(kid, row);
                    int end = endOf(row);
                    if (overlaps || row > 0 && end != endBefore) {
                        return true;
                    }
                    endBefore = end;
                    row++;
                }
                kid = tree.nextKid(kid);
            }
            return false;
        }

        private void clear() {
            for (int place = 0; place < width && place < MOST_PLACES; place++) {
                freeFrom[place] = 0;
            }
            width = 0;
        }

        /** Whether each cell of the row found all its places free. */
        private boolean layRow(int rowElement, int row) {
            int place = 0;
            int kid = tree.firstKid(rowElement);
            for (int step = 0; step < MOST_NODES && kid != NONE; step++) {
                int standard = tree.standardOf(kid);
                if (standard == HEAD || standard == CELL) {
                    int start = firstFree(place, row);
                    place = start + traits.columnsOf(kid);
                    if (!take(start, place, row, row + traits.rowsOf(kid))) {
                        return false;
                    }
                }
                kid = tree.nextKid(kid);
            }
            return true;
        }

        private int firstFree(int from, int row) {
            int place = from;
            while (place < width && place < MOST_PLACES && freeFrom[place] > row) {
                place++;
            }
            return place;
        }

        private boolean take(int start, int behind, int row, int rowBehind) {
            for (int place = start; place < behind && place < MOST_PLACES; place++) {
                if (freeFrom[place] > row) {
                    return false;
                }
                freeFrom[place] = rowBehind;
            }
            width = Math.max(width, behind);
            return true;
        }

        /** How many places the row has up to the last one that is taken in it. */
        private int endOf(int row) {
            for (int place = Math.min(width, MOST_PLACES) - 1; place >= 0; place--) {
                if (freeFrom[place] > row) {
                    return place + 1;
                }
            }
            return 0;
        }
    }

    /** The faults of the latest check. */
    private static final class Faults {
        private final int[] kinds = new int[MOST_FAULTS];
        private final int[] elementRow = new int[MOST_FAULTS];
        private final int[] numbers = new int[MOST_FAULTS];
        private int told;

        void forget() {
            told = 0;
        }

        void tell(int kind, int element, int number) {
            if (told < MOST_FAULTS) {
                kinds[told] = kind;
                elementRow[told] = element;
                numbers[told] = number;
                told++;
            }
        }

        int count() {
            return told;
        }

        int kindAt(int i) {
            return isWithin(i, told) ? kinds[i] : 0;
        }

        int elementAt(int i) {
            return isWithin(i, told) ? elementRow[i] : NONE;
        }

        int numberAt(int i) {
            return isWithin(i, told) ? numbers[i] : 0;
        }
    }

    /** Looks for all faults, kind by kind. */
    private static final class Inspection {
        private final Tree tree;
        private final Traits traits;
        private final Pages pages;
        private final Repeats repeats;
        private final Reading reading;
        private final Layout layout;
        private final Faults faults;
        private final int[] latestPlaces = new int[PAGES];

        Inspection(Tree tree, Traits traits, Pages pages, Repeats repeats, Reading reading, Faults faults) {
            this.tree = tree;
            this.traits = traits;
            this.pages = pages;
            this.repeats = repeats;
            this.reading = reading;
            this.faults = faults;
            layout = new Layout(tree, traits);
        }

        void findAll() {
            faults.forget();
            reading.follow();
            findAmongElements(NO_STANDARD);
            findAmongElements(NO_LEVEL);
            findLevelLeaps();
            findAmongElements(MISPLACED);
            findUneven();
            findAmongElements(NO_WORDS);
            findAmongElements(NO_KIDS);
            tellRepeats();
            tellUntagged();
            findReadLate();
        }

        // The document itself can have none of these faults, so the search begins behind it.
        private void findAmongElements(int kind) {
            for (int element = 1; element < tree.elementCount(); element++) {
                if (hasFault(element, kind)) {
                    faults.tell(kind, element, 0);
                }
            }
        }

        private boolean hasFault(int element, int kind) {
            int standard = tree.standardOf(element);
            switch (kind) {
                case NO_STANDARD:
                    return standard == NONE;
                case NO_LEVEL:
                    return standard == HEADING && traits.levelOf(element) == 0;
                case MISPLACED:
                    return isMisplaced(standard, tree.standardOf(tree.holderOf(element)));
                case NO_WORDS:
                    return standard == FIGURE && !traits.hasWords(element);
                case NO_KIDS:
                    return standard != FIGURE && tree.firstKid(element) == NONE;
                default:
                    return false;
            }
        }

        private static boolean isMisplaced(int standard, int holder) {
            int needed = holderNeededBy(standard);
            if (needed != NONE) {
                return holder != needed;
            }
            boolean holderIsStrict = holder == LIST || holder == TABLE || holder == ROW;
            return holderIsStrict && standard != ARTEFACT;
        }

        private static int holderNeededBy(int standard) {
            switch (standard) {
                case ITEM:
                    return LIST;
                case ROW:
                    return TABLE;
                case HEAD:
                case CELL:
                    return ROW;
                default:
                    return NONE;
            }
        }

        private void findUneven() {
            for (int element = 1; element < tree.elementCount(); element++) {
                if (tree.standardOf(element) == TABLE && layout.isUneven(element)) {
                    faults.tell(UNEVEN, element, 0);
                }
            }
        }

        private void findLevelLeaps() {
            int before = 0;
            for (int i = 0; i < reading.headingCount(); i++) {
                int level = reading.levelAt(i);
                if (level > before + 1) {
                    faults.tell(LEVEL_LEAP, reading.headingAt(i), level);
                }
                before = level;
            }
        }

        private void tellRepeats() {
            for (int i = 0; i < repeats.count(); i++) {
                faults.tell(REPEATED, repeats.elementAt(i), repeats.tagAt(i));
            }
        }

        private void tellUntagged() {
            pages.gatherUntagged();
            for (int i = 0; i < pages.untaggedCount(); i++) {
                faults.tell(UNTAGGED, NONE, pages.untaggedAt(i));
            }
        }

        private void findReadLate() {
            Arrays.fill(latestPlaces, NONE);
            for (int i = 0; i < reading.partCount(); i++) {
                int tag = reading.tagAt(i);
                int place = pages.placeOf(tag);
                int page = tag / MARKS;
                if (place != NONE && isWithin(page, PAGES)) {
                    if (place < latestPlaces[page]) {
                        faults.tell(READ_LATE, tree.holderOfTag(tag), tag);
                    }
                    latestPlaces[page] = place;
                }
            }
        }
    }
}
