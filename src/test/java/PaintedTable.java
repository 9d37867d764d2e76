import java.util.ArrayList;
import java.util.Arrays;
import java.util.List;

/**
 * A second reading of the document, as slow and as literal as can be: every slot has the list of the cells
 * that take it, and growing cells paint each row when that row begins. Arguments are taken to be right,
 * but for what depends on the table.
 */
final class PaintedTable {
    private static final class Box {
        int group;
        int left;
        int top;
        int columns;
        int asked;
        int least;
        int most;
        int need;
        int thickness;
        int rank;
    }

    private final List<Box> boxes = new ArrayList<>();
    /** By row and column; far wider and higher than a table can be. */
    private final List<List<List<Integer>>> paint = new ArrayList<>();
    private final List<List<Integer>> begunRows = new ArrayList<>();
    private int space;
    private int gap;
    private boolean fixed;
    private int ended;

    PaintedTable() {
        empty();
    }

    private void empty() {
        boxes.clear();
        begunRows.clear();
        begunRows.add(new ArrayList<>());
        paint.clear();
        for (int y = 0; y < 30; y++) {
            List<List<Integer>> line = new ArrayList<>();
            for (int x = 0; x < 30; x++) {
                line.add(new ArrayList<>());
            }
            paint.add(line);
        }
    }

    int clear() {
        int before = boxes.size();
        empty();
        return before;
    }

    void layout(int space, int gap, boolean fixed) {
        this.space = space;
        this.gap = gap;
        this.fixed = fixed;
    }

    void border(int k, int thickness, int rank) {
        boxes.get(k).thickness = thickness;
        boxes.get(k).rank = rank;
    }

    private int latestGroup() {
        return begunRows.size() - 1;
    }

    /** The first row behind all that were begun in the groups up to this one, or that their cells take. */
    private int endOf(int group) {
        int end = group == 0 ? 0 : endOf(group - 1);
        for (int y : begunRows.get(group)) {
            end = Math.max(end, y + 1);
        }
        for (Box box : boxes) {
            if (box.group == group) {
                end = Math.max(end, box.top + box.asked);
            }
        }
        return end;
    }

    private void paintRow(int k, int y) {
        Box box = boxes.get(k);
        for (int x = box.left; x < box.left + box.columns; x++) {
            List<Integer> slot = paint.get(y).get(x);
            if (!slot.contains(k)) {
                slot.add(k);
                slot.sort(null);
            }
        }
    }

    private void growInto(int group, int y) {
        for (int k = 0; k < boxes.size(); k++) {
            Box box = boxes.get(k);
            if (box.group == group && box.asked == 0 && box.top <= y) {
                paintRow(k, y);
            }
        }
    }

    private void endGroup(int group) {
        int start = group == 0 ? 0 : endOf(group - 1);
        for (int y = start; y < endOf(group); y++) {
            growInto(group, y);
        }
    }

    int group() {
        if (begunRows.size() == 8) {
            return -1;
        }
        endGroup(latestGroup());
        begunRows.add(new ArrayList<>());
        return begunRows.size();
    }

    int row() {
        int group = latestGroup();
        int y = (group == 0 ? 0 : endOf(group - 1)) + begunRows.get(group).size();
        if (y >= 12) {
            return -1;
        }
        begunRows.get(group).add(y);
        growInto(group, y);
        return y;
    }

    int cell(int columns, int rows, int least, int most, int need) {
        List<Integer> begun = begunRows.get(latestGroup());
        if (begun.isEmpty() || boxes.size() == 40) {
            return -1;
        }
        Box box = new Box();
        box.group = latestGroup();
        box.top = begun.get(begun.size() - 1);
        for (Box other : boxes) {
            if (other.group == box.group && other.top == box.top) {
                box.left = other.left + other.columns;
            }
        }
        while (!paint.get(box.top).get(box.left).isEmpty()) {
            box.left++;
        }
        box.columns = columns;
        box.asked = rows;
        box.least = least;
        box.most = most;
        box.need = need;
        if (box.left + columns > 12 || box.top + rows > 12) {
            return -1;
        }
        boxes.add(box);
        for (int y = box.top; y < box.top + Math.max(1, rows); y++) {
            paintRow(boxes.size() - 1, y);
        }
        return boxes.size() - 1;
    }

    /** A copy whose last group has ended, to be asked; this one may go on. */
    PaintedTable asked() {
        PaintedTable copy = new PaintedTable();
        copy.boxes.addAll(boxes);
        copy.begunRows.clear();
        copy.begunRows.addAll(begunRows);
        for (int y = 0; y < 30; y++) {
            for (int x = 0; x < 30; x++) {
                copy.paint.get(y).get(x).addAll(paint.get(y).get(x));
            }
        }
        copy.layout(space, gap, fixed);
        copy.endGroup(copy.latestGroup());
        copy.ended = copy.endOf(copy.latestGroup());
        return copy;
    }

    int columns() {
        int reach = 0;
        for (List<List<Integer>> line : paint) {
            for (int x = 0; x < 30; x++) {
                reach = line.get(x).isEmpty() ? reach : Math.max(reach, x + 1);
            }
        }
        return reach;
    }

    int rows() {
        return ended;
    }

    int slot(int x, int y) {
        if (x < 0 || y < 0 || x >= 30 || y >= 30 || paint.get(y).get(x).isEmpty()) {
            return -1;
        }
        return paint.get(y).get(x).get(0);
    }

    int overlaps() {
        int overlaps = 0;
        for (List<List<Integer>> line : paint) {
            for (List<Integer> slot : line) {
                overlaps += Math.max(0, slot.size() - 1);
            }
        }
        return overlaps;
    }

    int empties() {
        boolean[] column = new boolean[columns()];
        boolean[] row = new boolean[rows()];
        for (Box box : boxes) {
            column[box.left] = true;
            row[box.top] = true;
        }
        int empties = 0;
        for (boolean begun : column) {
            empties += begun ? 0 : 1;
        }
        for (boolean begun : row) {
            empties += begun ? 0 : 100;
        }
        return empties;
    }

    private int paintedRows(int k) {
        int rows = 0;
        for (List<List<Integer>> line : paint) {
            rows += line.get(boxes.get(k).left).contains(k) ? 1 : 0;
        }
        return rows;
    }

    int span(int k) {
        Box box = boxes.get(k);
        return box.left + 100 * box.top + 10000 * box.columns + 1000000 * paintedRows(k);
    }

    private static int sum(int[] values) {
        return Arrays.stream(values).sum();
    }

    static int[] share(int n, int[] weights) {
        int[] by = weights.clone();
        if (sum(by) == 0) {
            Arrays.fill(by, 1);
        }
        int[] parts = new int[by.length];
        for (int i = 0; i < by.length; i++) {
            parts[i] = (int) Math.floor((double) n * by[i] / sum(by) + 1e-9);
        }
        int left = n - sum(parts);
        for (int i = 0; left > 0; i = (i + 1) % by.length) {
            parts[i]++;
            left--;
        }
        return parts;
    }

    private static void add(int[] values, int from, int[] parts) {
        for (int i = 0; i < parts.length; i++) {
            values[from + i] += parts[i];
        }
    }

    private static int[] cut(int[] values, int from, int count) {
        return Arrays.copyOfRange(values, from, from + count);
    }

    /** The least widths, and the most widths. */
    int[][] measures() {
        int[] least = new int[columns()];
        int[] most = new int[columns()];
        for (Box box : boxes) {
            if (box.columns == 1) {
                least[box.left] = Math.max(least[box.left], box.least);
                most[box.left] = Math.max(most[box.left], box.most);
            }
        }
        for (int n = 2; n <= 6; n++) {
            for (Box box : boxes) {
                if (box.columns != n) {
                    continue;
                }
                int[] weights = cut(most, box.left, n);
                int moreLeast = box.least - sum(cut(least, box.left, n)) - (n - 1) * gap;
                if (moreLeast > 0) {
                    add(least, box.left, share(moreLeast, weights));
                }
                int moreMost = box.most - sum(weights) - (n - 1) * gap;
                if (moreMost > 0) {
                    add(most, box.left, share(moreMost, weights));
                }
                for (int x = 0; x < most.length; x++) {
                    most[x] = Math.max(most[x], least[x]);
                }
            }
        }
        return new int[][] {least, most};
    }

    int[] widths() {
        int room = Math.max(0, space - gap * (columns() + 1));
        if (fixed) {
            return fixedWidths(room);
        }
        int[] least = measures()[0];
        int[] most = measures()[1];
        if (room <= sum(least)) {
            return least;
        }
        if (room <= sum(most)) {
            int[] more = new int[most.length];
            for (int x = 0; x < most.length; x++) {
                more[x] = most[x] - least[x];
            }
            int rest = room - sum(least);
            add(least, 0, share(rest, more));
            return least;
        }
        int[] parts = most.length == 0 ? most : share(room - sum(most), most);
        add(most, 0, parts);
        return most;
    }

    private int[] fixedWidths(int room) {
        int[] widths = new int[columns()];
        Arrays.fill(widths, -1);
        for (Box box : boxes) {
            if (box.top == 0) {
                int own = Math.max(0, box.least - (box.columns - 1) * gap);
                int[] parts = share(own, new int[box.columns]);
                for (int i = 0; i < parts.length; i++) {
                    widths[box.left + i] = widths[box.left + i] < 0 ? parts[i] : widths[box.left + i];
                }
            }
        }
        int given = 0;
        int without = 0;
        for (int width : widths) {
            given += Math.max(0, width);
            without += width < 0 ? 1 : 0;
        }
        if (without > 0) {
            int[] parts = share(Math.max(0, room - given), new int[without]);
            int next = 0;
            for (int x = 0; x < widths.length; x++) {
                widths[x] = widths[x] < 0 ? parts[next++] : widths[x];
            }
        }
        return widths;
    }

    int[] heights() {
        int[] heights = new int[rows()];
        for (int n = 1; n <= 12; n++) {
            for (int k = 0; k < boxes.size(); k++) {
                Box box = boxes.get(k);
                if (paintedRows(k) != n) {
                    continue;
                }
                if (n == 1) {
                    heights[box.top] = Math.max(heights[box.top], box.need);
                    continue;
                }
                int[] weights = cut(heights, box.top, n);
                int more = box.need - sum(weights) - (n - 1) * gap;
                if (more > 0) {
                    add(heights, box.top, share(more, weights));
                }
            }
        }
        return heights;
    }

    int place(int k, int what) {
        Box box = boxes.get(k);
        int[] lines = what % 2 == 0 ? widths() : heights();
        int first = what % 2 == 0 ? box.left : box.top;
        int count = what % 2 == 0 ? box.columns : paintedRows(k);
        int at = gap;
        for (int i = 0; i < first; i++) {
            at += lines[i] + gap;
        }
        return what < 2 ? at : sum(cut(lines, first, count)) + (count - 1) * gap;
    }

    int size(boolean down) {
        if (columns() == 0 || rows() == 0) {
            return 0;
        }
        int[] lines = down ? heights() : widths();
        return sum(lines) + (lines.length + 1) * gap;
    }

    int edge(int x, int y, boolean down) {
        if (x < 0 || y < 0 || x >= columns() || y >= rows()) {
            return -1;
        }
        int c = slot(x, y);
        int d = down ? slot(x, y + 1) : slot(x + 1, y);
        if (c == d || c < 0 || d < 0) {
            return c == d ? -1 : Math.max(c, d);
        }
        Box a = boxes.get(c);
        Box b = boxes.get(d);
        // one number for all that counts, in its order; rank 4 puts everything else out
        int weightA = a.rank == 4 ? 1000 : a.thickness * 10 + a.rank;
        int weightB = b.rank == 4 ? 1000 : b.thickness * 10 + b.rank;
        return weightB > weightA ? d : c;
    }
}
