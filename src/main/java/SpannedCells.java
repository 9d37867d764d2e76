import java.util.ArrayList;
import java.util.Arrays;

/**
 * Lays out a table whose cells may reach over several columns and rows.
 *
 * <p>Only the cells and the layout are kept; widths and heights are reckoned anew for each question,
 * in arrays that are made once, so that no call leaves anything behind but a cell.
 */
public final class SpannedCells {
    public static final int NONE = -1;

    private static final int MOST_GROUPS = 8;
    private static final int MOST_CELLS = 40;
    /** The most columns, and the most rows, of a table. */
    private static final int MOST_LINES = 12;
    /** The most columns, and the most rows, that a cell may ask for. */
    private static final int MOST_SPAN = 6;
    private static final int MOST_MEASURE = 1000;
    private static final int MOST_THICKNESS = 9;
    private static final int HIDING_RANK = 4;
    private static final int MOST_SPACE = 10000;
    private static final int MOST_GAP = 20;

    private final Grid grid = new Grid();
    private final Widths widths = new Widths();
    private final Heights heights = new Heights();
    private int space = 0;
    private int gap = 0;
    private boolean fixed = false;

    public SpannedCells() {
    }

    public int group() {
        return grid.beginGroup();
    }

    public int row() {
        return grid.beginRow();
    }

    public int cell(int columns, int rows, int least, int most, int need) {
        boolean goodSpan = within(columns, 1, MOST_SPAN) && within(rows, 0, MOST_SPAN);
        boolean goodWidth = within(most, 0, MOST_MEASURE) && within(least, 0, most);
        boolean goodNeed = within(need, 0, MOST_MEASURE);
        if (!goodSpan || !goodWidth || !goodNeed) {
            return NONE;
        }
        return grid.putCell(columns, rows, least, most, need);
    }

    public boolean border(int k, int thickness, int rank) {
        if (!grid.hasCell(k) || !within(thickness, 0, MOST_THICKNESS) || !within(rank, 0, HIDING_RANK)) {
            return false;
        }
        grid.cellAt(k).frame(thickness, rank);
        return true;
    }

    public boolean layout(int space, int gap, boolean fixed) {
        if (!within(space, 0, MOST_SPACE) || !within(gap, 0, MOST_GAP)) {
            return false;
        }
        this.space = space;
        this.gap = gap;
        this.fixed = fixed;
        return true;
    }

    public int clear() {
        int before = grid.cellCount();
        grid.empty();
        return before;
    }

    public int columns() {
        return grid.columnCount();
    }

    public int rows() {
        return grid.rowCount();
    }

    public int slot(int x, int y) {
        return grid.ownerOf(x, y);
    }

    public int overlaps() {
        return grid.countOverlaps();
    }

    public int empties() {
        return grid.countEmptyColumns() + 100 * grid.countEmptyRows();
    }

    public int span(int k) {
        if (!grid.hasCell(k)) {
            return NONE;
        }
        Cell cell = grid.cellAt(k);
        return cell.left + 100 * cell.top + 10000 * cell.columns + 1000000 * cell.rows;
    }

    public int wide(int x, int what) {
        if (!within(x, 0, grid.columnCount() - 1)) {
            return NONE;
        }
        if (what == 0) {
            return measuredWidths().least.sizeOf(x);
        }
        if (what == 1) {
            return measuredWidths().most.sizeOf(x);
        }
        return chosenWidths().sizeOf(x);
    }

    public int high(int y) {
        if (!within(y, 0, grid.rowCount() - 1)) {
            return NONE;
        }
        return measuredHeights().sizeOf(y);
    }

    public int place(int k, int what) {
        if (!grid.hasCell(k)) {
            return NONE;
        }
        Cell cell = grid.cellAt(k);
        switch (what) {
            case 0:
                return chosenWidths().startOf(cell.left, gap);
            case 1:
                return measuredHeights().startOf(cell.top, gap);
            case 2:
                return chosenWidths().reach(cell.left, cell.right(), gap);
            case 3:
                return measuredHeights().reach(cell.top, cell.bottom(), gap);
            default:
                return NONE;
        }
    }

    public int size(boolean down) {
        if (grid.columnCount() == 0 || grid.rowCount() == 0) {
            return 0;
        }
        // Behind the last line lies a gap, so the table ends where one more line would begin.
        return down
            ? measuredHeights().startOf(grid.rowCount(), gap)
            : chosenWidths().startOf(grid.columnCount(), gap);
    }

    public int edge(int x, int y, boolean down) {
        if (!grid.hasSlot(x, y)) {
            return NONE;
        }
        int beyond = down ? grid.ownerOf(x, y + 1) : grid.ownerOf(x + 1, y);
        return grid.drawnBetween(grid.ownerOf(x, y), beyond);
    }

    private Widths measuredWidths() {
        widths.measure(grid, gap);
        return widths;
    }

    private Lines chosenWidths() {
        int room = Math.max(0, space - gap * (grid.columnCount() + 1));
        if (fixed) {
            widths.chooseFixed(grid, gap, room);
        } else {
            widths.measure(grid, gap);
            widths.chooseByMeasures(grid.columnCount(), room);
        }
        return widths.chosen;
    }

    private Lines measuredHeights() {
        heights.measure(grid, gap);
        return heights.needed;
    }

    private static boolean within(int value, int low, int high) {
        return low <= value && value <= high;
    }

    /** A cell with the slots that it takes, its measures and its border. */
    private static final class Cell {
        final int left;
        final int top;
        final int columns;
        final int least;
        final int most;
        final int need;
        private final boolean growing;
        int rows;
        private int thickness = 0;
        private int rank = 0;

        Cell(int left, int top, int columns, int rows, int least, int most, int need) {
            this.left = left;
            this.top = top;
            this.columns = columns;
            this.rows = rows;
            this.least = least;
            this.most = most;
            this.need = need;
            this.growing = rows == 0;
        }

        int right() {
            return left + columns;
        }

        int bottom() {
            return top + rows;
        }

        boolean takes(int x, int y) {
            return left <= x && x < right() && top <= y && y < bottom();
        }

        void growTo(int end) {
            if (growing) {
                rows = end - top;
            }
        }

        void frame(int thickness, int rank) {
            this.thickness = thickness;
            this.rank = rank;
        }

        /** Whether this border is drawn instead of that of the cell on the left or above. */
        boolean prevailsOver(Cell former) {
            if (former.rank == HIDING_RANK) {
                return false;
            }
            if (rank == HIDING_RANK) {
                return true;
            }
            if (thickness != former.thickness) {
                return thickness > former.thickness;
            }
            return rank > former.rank;
        }
    }

    /** The groups, the rows and the cells of the table. */
    private static final class Grid {
        private final ArrayList<Cell> cells = new ArrayList<>();
        private int groups = 1;
        private int groupStart = 0;
        private int begunInGroup = 0;
        private int rowsEnd = 0;
        private int columnsEnd = 0;

        void empty() {
            cells.clear();
            groups = 1;
            groupStart = 0;
            begunInGroup = 0;
            rowsEnd = 0;
            columnsEnd = 0;
        }

        int beginGroup() {
            if (groups == MOST_GROUPS) {
                return NONE;
            }
            groups++;
            groupStart = rowsEnd;
            begunInGroup = 0;
            return groups;
        }

        int beginRow() {
            int y = groupStart + begunInGroup;
            if (y >= MOST_LINES) {
                return NONE;
            }
            begunInGroup++;
            extendGroupTo(y + 1);
            return y;
        }

        int putCell(int columns, int rows, int least, int most, int need) {
            if (begunInGroup == 0 || cells.size() >= MOST_CELLS) {
                return NONE;
            }
            int y = groupStart + begunInGroup - 1;
            int x = firstFreeColumn(y);
            if (x + columns > MOST_LINES || y + rows > MOST_LINES) {
                return NONE;
            }
            cells.add(new Cell(x, y, columns, rows, least, most, need));
            columnsEnd = Math.max(columnsEnd, x + columns);
            extendGroupTo(y + rows);
            return cells.size() - 1;
        }

        /** Up to where the row's latest cell ended no slot is free, so the search may begin at column 0. */
        private int firstFreeColumn(int y) {
            for (int x = 0; x < MOST_LINES; x++) {
                if (ownerOf(x, y) == NONE) {
                    return x;
                }
            }
            return MOST_LINES;
        }

        /**
         * Growing cells reach the group's end at once, though it has not ended: a cell is put by what
         * is taken in its own row alone, and every question counts the last group as ended.
         */
        private void extendGroupTo(int end) {
            rowsEnd = Math.max(rowsEnd, end);
            for (int k = 0; k < cells.size(); k++) {
                Cell cell = cells.get(k);
                if (cell.top >= groupStart) {
                    cell.growTo(rowsEnd);
                }
            }
        }

        int cellCount() {
            return cells.size();
        }

        int columnCount() {
            return columnsEnd;
        }

        int rowCount() {
            return rowsEnd;
        }

        boolean hasCell(int k) {
            return 0 <= k && k < cells.size();
        }

        Cell cellAt(int k) {
            return cells.get(k);
        }

        boolean hasSlot(int x, int y) {
            return within(x, 0, columnsEnd - 1) && within(y, 0, rowsEnd - 1);
        }

        int ownerOf(int x, int y) {
            for (int k = 0; k < cells.size(); k++) {
                if (cells.get(k).takes(x, y)) {
                    return k;
                }
            }
            return NONE;
        }

        int countOverlaps() {
            int taken = 0;
            for (int k = 0; k < cells.size(); k++) {
                taken += cells.get(k).columns * cells.get(k).rows;
            }
            return taken - countOwnedSlots();
        }

        private int countOwnedSlots() {
            int owned = 0;
            for (int y = 0; y < rowsEnd; y++) {
                for (int x = 0; x < columnsEnd; x++) {
                    owned += ownerOf(x, y) == NONE ? 0 : 1;
                }
            }
            return owned;
        }

        int countEmptyColumns() {
            int empty = 0;
            for (int x = 0; x < columnsEnd; x++) {
                empty += beginsInColumn(x) ? 0 : 1;
            }
            return empty;
        }

        int countEmptyRows() {
            int empty = 0;
            for (int y = 0; y < rowsEnd; y++) {
                empty += beginsInRow(y) ? 0 : 1;
            }
            return empty;
        }

        private boolean beginsInColumn(int x) {
            for (int k = 0; k < cells.size(); k++) {
                if (cells.get(k).left == x) {
                    return true;
                }
            }
            return false;
        }

        private boolean beginsInRow(int y) {
            for (int k = 0; k < cells.size(); k++) {
                if (cells.get(k).top == y) {
                    return true;
                }
            }
            return false;
        }

        /** Whose border is drawn between a slot of cell c and the one right of it or below, of cell d. */
        int drawnBetween(int c, int d) {
            if (c == d) {
                return NONE;
            }
            if (!hasCell(c)) {
                return d;
            }
            if (!hasCell(d)) {
                return c;
            }
            return cellAt(d).prevailsOver(cellAt(c)) ? d : c;
        }
    }

    /** One size for each column, or for each row; "to" is always the line behind the last one meant. */
    private static final class Lines {
        private final int[] sizes = new int[MOST_LINES];

        void reset() {
            Arrays.fill(sizes, 0);
        }

        int sizeOf(int i) {
            return sizes[i];
        }

        void set(int i, int size) {
            sizes[i] = size;
        }

        void raiseTo(Lines floor, int from, int to) {
            for (int i = from; i < to; i++) {
                sizes[i] = Math.max(sizes[i], floor.sizes[i]);
            }
        }

        void copyOf(Lines other) {
            System.arraycopy(other.sizes, 0, sizes, 0, MOST_LINES);
        }

        int sum(int from, int to) {
            int sum = 0;
            for (int i = from; i < to; i++) {
                sum += sizes[i];
            }
            return sum;
        }

        int reach(int from, int to, int gap) {
            return sum(from, to) + gap * (to - from - 1);
        }

        int startOf(int i, int gap) {
            return sum(0, i) + gap * (i + 1);
        }

        /** A single line becomes just what is wanted, so a cell of one line needs no rule of its own. */
        void stretch(int wanted, int gap, Lines weights, int from, int to) {
            int excess = wanted - reach(from, to, gap);
            if (excess > 0) {
                shareOut(excess, weights, from, to);
            }
        }

        /**
         * The weights may be these very lines: their sum is taken before any of them changes, and each
         * one is read for the last time when its own line gets its part.
         */
        void shareOut(int amount, Lines weights, int from, int to) {
            int weightSum = weights.sum(from, to);
            boolean alike = weightSum == 0;
            int divisor = alike ? to - from : weightSum;
            if (divisor <= 0) {
                return;
            }
            int left = amount;
            for (int i = from; i < to; i++) {
                int weight = alike ? 1 : weights.sizes[i];
                int part = amount * weight / divisor;
                sizes[i] += part;
                left -= part;
            }
            for (int i = from; i < to && left > 0; i++) {
                sizes[i]++;
                left--;
            }
        }
    }

    /** The measures of the columns, and the widths that are chosen for them. */
    private static final class Widths {
        final Lines least = new Lines();
        final Lines most = new Lines();
        final Lines chosen = new Lines();
        private final Lines weights = new Lines();

        void measure(Grid grid, int gap) {
            least.reset();
            most.reset();
            for (int columns = 1; columns <= MOST_SPAN; columns++) {
                for (int k = 0; k < grid.cellCount(); k++) {
                    if (grid.cellAt(k).columns == columns) {
                        fit(grid.cellAt(k), gap);
                    }
                }
            }
        }

        private void fit(Cell cell, int gap) {
            least.stretch(cell.least, gap, most, cell.left, cell.right());
            most.stretch(cell.most, gap, most, cell.left, cell.right());
            most.raiseTo(least, cell.left, cell.right());
        }

        void chooseByMeasures(int columns, int room) {
            int leastSum = least.sum(0, columns);
            int mostSum = most.sum(0, columns);
            if (room <= leastSum) {
                chosen.copyOf(least);
            } else if (room <= mostSum) {
                weighByScope(columns);
                chosen.copyOf(least);
                chosen.shareOut(room - leastSum, weights, 0, columns);
            } else {
                chosen.copyOf(most);
                chosen.shareOut(room - mostSum, most, 0, columns);
            }
        }

        private void weighByScope(int columns) {
            for (int x = 0; x < columns; x++) {
                weights.set(x, most.sizeOf(x) - least.sizeOf(x));
            }
        }

        /**
         * No row lies above row 0, so its cells stand side by side from column 0 on: none of their
         * columns has a width already, and those that get none are all behind the last of them.
         */
        void chooseFixed(Grid grid, int gap, int room) {
            chosen.reset();
            weights.reset();
            int given = 0;
            for (int k = 0; k < grid.cellCount(); k++) {
                Cell cell = grid.cellAt(k);
                if (cell.top == 0) {
                    int own = Math.max(0, cell.least - gap * (cell.columns - 1));
                    chosen.shareOut(own, weights, cell.left, cell.right());
                    given = cell.right();
                }
            }
            int rest = Math.max(0, room - chosen.sum(0, given));
            chosen.shareOut(rest, weights, given, grid.columnCount());
        }
    }

    /** The heights that the rows need. */
    private static final class Heights {
        final Lines needed = new Lines();

        void measure(Grid grid, int gap) {
            needed.reset();
            for (int rows = 1; rows <= MOST_LINES; rows++) {
                for (int k = 0; k < grid.cellCount(); k++) {
                    Cell cell = grid.cellAt(k);
                    if (cell.rows == rows) {
                        needed.stretch(cell.need, gap, needed, cell.top, cell.bottom());
                    }
                }
            }
        }
    }
}
