import java.util.ArrayList;
import java.util.HashMap;
import java.util.HashSet;
import java.util.LinkedHashMap;
import java.util.List;
import java.util.Map;
import java.util.NoSuchElementException;
import java.util.Set;

/**
 * The document's words over again with lists, maps and recursion, so that it shares no way of reckoning with the
 * class that it is compared with.
 */
final class Model {
    private static final class Node {
        int number;
        Node holder;
        int role;
        int level;
        boolean words;
        int rows = 1;
        int columns = 1;
        boolean isPart;
        int page;
        int mark;
        final List<Node> kids = new ArrayList<>();

        int tag() {
            return 20 * page + mark;
        }
    }

    private final List<Node> elements = new ArrayList<>();
    private final Map<Integer, Integer> maps = new HashMap<>();
    private final Map<Integer, Node> parts = new LinkedHashMap<>();
    private final List<int[]> repeats = new ArrayList<>();
    private final List<List<Integer>> shown = new ArrayList<>();
    private List<int[]> faults = new ArrayList<>();

    Model() {
        elements.add(new Node());
        for (int page = 0; page < 10; page++) {
            shown.add(new ArrayList<>());
        }
    }

    int element(int parent, int role) {
        Node holder = find(parent);
        if (role == 0 || !isRole(role)) {
            throw new IllegalArgumentException();
        }
        if (elements.size() == 60) {
            throw new UnsupportedOperationException();
        }
        Node made = new Node();
        made.number = elements.size();
        made.role = role;
        made.holder = holder;
        holder.kids.add(made);
        elements.add(made);
        return made.number;
    }

    int map(int role, int to) {
        if (role < 100 || role > 119 || !isRole(to)) {
            throw new IllegalArgumentException();
        }
        Integer reached = to;
        while (reached != null) {
            if (reached == role) {
                return 0;
            }
            reached = maps.get(reached);
        }
        maps.put(role, to);
        return 1;
    }

    int content(int element, int page, int mark) {
        Node holder = find(element);
        int tag = tag(page, mark);
        if (parts.containsKey(tag)) {
            if (repeats.size() < 40) {
                repeats.add(new int[] {8, element, tag});
            }
            return 0;
        }
        if (parts.size() == 100) {
            throw new UnsupportedOperationException();
        }
        Node part = new Node();
        part.isPart = true;
        part.page = page;
        part.mark = mark;
        part.holder = holder;
        holder.kids.add(part);
        parts.put(tag, part);
        return 1;
    }

    int shows(int page, int mark) {
        int tag = tag(page, mark);
        List<Integer> row = shown.get(page);
        if (row.contains(tag)) {
            return 0;
        }
        row.add(tag);
        return row.size();
    }

    int walk() {
        return walkParts().size();
    }

    int at(int i, int what) {
        Node part = get(walkParts(), i);
        return get(List.of(part.page, part.mark, part.holder.number), what);
    }

    int parent(int page, int mark) {
        Node part = parts.get(tag(page, mark));
        return part == null ? -1 : part.holder.number;
    }

    int check() {
        faults = new ArrayList<>();
        for (int kind = 1; kind <= 10; kind++) {
            look(kind);
        }
        return faults.size();
    }

    int fault(int i, int what) {
        int[] fault = get(faults, i);
        return get(List.of(fault[0], fault[1], fault[2]), what);
    }

    int heading(int element, int level) {
        Node node = find(element);
        if (level < 1 || level > 6) {
            throw new IllegalArgumentException();
        }
        int before = node.level;
        node.level = level;
        return before;
    }

    int words(int element, boolean has) {
        Node node = find(element);
        int before = node.words ? 1 : 0;
        node.words = has;
        return before;
    }

    int span(int cell, int rows, int columns) {
        Node node = find(cell);
        if (rows < 1 || rows > 8 || columns < 1 || columns > 8) {
            throw new IllegalArgumentException();
        }
        int before = node.rows * 10 + node.columns;
        node.rows = rows;
        node.columns = columns;
        return before;
    }

    int outline(int i, int what) {
        List<Node> headings = headings();
        if (i == -1) {
            return headings.size();
        }
        Node heading = get(headings, i);
        return get(List.of(heading.number, liesIn(headings, i).size(), heading.level), what);
    }

    int untagged(int i) {
        List<Integer> tags = new ArrayList<>();
        for (List<Integer> row : shown) {
            for (int tag : row) {
                if (!parts.containsKey(tag)) {
                    tags.add(tag);
                }
            }
        }
        return i == -1 ? tags.size() : get(tags, i);
    }

    private Set<Integer> liesIn(List<Node> headings, int i) {
        Set<Integer> found = new HashSet<>();
        for (int before = i - 1; before >= 0; before--) {
            if (headings.get(before).level < headings.get(i).level) {
                found.add(before);
                found.addAll(liesIn(headings, before));
                break;
            }
        }
        return found;
    }

    private void look(int kind) {
        if (kind == 3) {
            lookForLeaps();
        } else if (kind == 8) {
            faults.addAll(repeats);
        } else if (kind == 9) {
            for (int i = 0; i < untagged(-1); i++) {
                faults.add(new int[] {9, -1, untagged(i)});
            }
        } else if (kind == 10) {
            lookForLate();
        } else {
            for (Node node : elements) {
                if (isFaulty(node, kind)) {
                    faults.add(new int[] {kind, node.number, 0});
                }
            }
        }
    }

    private boolean isFaulty(Node node, int kind) {
        int own = standard(node);
        int holder = node.holder == null ? -1 : standard(node.holder);
        switch (kind) {
            case 1: return own == -1;
            case 2: return own == 2 && node.level == 0;
            case 4: return own == 5 && holder != 4
                    || holder == 4 && own != 5 && own != 12
                    || own == 7 && holder != 6
                    || holder == 6 && own != 7 && own != 12
                    || (own == 8 || own == 9) && holder != 7
                    || holder == 7 && own != 8 && own != 9 && own != 12;
            case 5: return own == 6 && isUneven(node);
            case 6: return own == 10 && !node.words;
            default: return node.kids.isEmpty() && own != 10 && node.number != 0;
        }
    }

    private void lookForLeaps() {
        int before = 0;
        for (Node heading : headings()) {
            if (heading.level - before > 1) {
                faults.add(new int[] {3, heading.number, heading.level});
            }
            before = heading.level;
        }
    }

    private void lookForLate() {
        List<Node> walked = walkParts();
        for (int i = 0; i < walked.size(); i++) {
            Node part = walked.get(i);
            int place = shown.get(part.page).indexOf(part.tag());
            int before = -1;
            for (int j = 0; j < i; j++) {
                Node earlier = walked.get(j);
                if (earlier.page == part.page && shown.get(part.page).contains(earlier.tag())) {
                    before = shown.get(part.page).indexOf(earlier.tag());
                }
            }
            if (place >= 0 && place < before) {
                faults.add(new int[] {10, part.holder.number, part.tag()});
            }
        }
    }

    /** A grid that is drawn cell by cell, place by place. */
    private boolean isUneven(Node table) {
        Map<Integer, Set<Integer>> taken = new HashMap<>();
        boolean uneven = false;
        int row = 0;
        for (Node rowNode : table.kids) {
            if (standard(rowNode) != 7) {
                continue;
            }
            Set<Integer> fromAbove = new HashSet<>(taken.getOrDefault(row, Set.of()));
            int place = 0;
            for (Node cell : rowNode.kids) {
                if (standard(cell) != 8 && standard(cell) != 9) {
                    continue;
                }
                while (fromAbove.contains(place)) {
                    place++;
                }
                for (int column = 0; column < cell.columns; column++) {
                    uneven |= fromAbove.contains(place + column);
                    for (int down = 0; down < cell.rows; down++) {
                        taken.computeIfAbsent(row + down, made -> new HashSet<>()).add(place + column);
                    }
                }
                place += cell.columns;
            }
            row++;
        }
        Set<Integer> ends = new HashSet<>();
        for (int i = 0; i < row; i++) {
            ends.add(taken.getOrDefault(i, Set.of()).stream().mapToInt(p -> p).max().orElse(-1));
        }
        return uneven || ends.size() > 1;
    }

    private List<Node> headings() {
        List<Node> found = new ArrayList<>();
        for (Node node : walkNodes(elements.get(0), new ArrayList<>())) {
            if (standard(node) == 2 && node.level > 0) {
                found.add(node);
            }
        }
        return found;
    }

    private List<Node> walkParts() {
        List<Node> found = walkNodes(elements.get(0), new ArrayList<>());
        found.removeIf(node -> !node.isPart);
        return found;
    }

    private List<Node> walkNodes(Node from, List<Node> found) {
        if (standard(from) != 12) {
            found.add(from);
            for (Node kid : from.kids) {
                walkNodes(kid, found);
            }
        }
        return found;
    }

    private int standard(Node node) {
        if (node.isPart) {
            return -1;
        }
        Integer reached = node.role;
        while (reached != null && reached >= 100) {
            reached = maps.get(reached);
        }
        return reached == null ? -1 : reached;
    }

    private Node find(int element) {
        if (element < 0 || element >= elements.size()) {
            throw new NoSuchElementException();
        }
        return elements.get(element);
    }

    private static int tag(int page, int mark) {
        if (page < 0 || page > 9 || mark < 0 || mark > 19) {
            throw new IllegalArgumentException();
        }
        return 20 * page + mark;
    }

    private static boolean isRole(int role) {
        return role >= 0 && role <= 12 || role >= 100 && role <= 119;
    }

    private static <T> T get(List<T> list, int i) {
        if (i < 0 || i >= list.size()) {
            throw new IndexOutOfBoundsException();
        }
        return list.get(i);
    }
}
