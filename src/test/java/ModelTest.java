/** Builds many tables, always the same ones, and compares every answer with that of PaintedTable. */
public final class ModelTest {
    private static final int TABLES = 1500;
    /** Numbers that are wrong wherever a number can be wrong. */
    private static final int[] BEYOND = {-1, 10001, Integer.MIN_VALUE, Integer.MAX_VALUE};
    private static final Due DUE = new Due("ModelTest");

    private static int fullOfCells = 0;
    private static int fullOfRows = 0;
    private static int fullOfGroups = 0;

    private final Replay table = new Replay();
    private final PaintedTable model = new PaintedTable();
    private final String name;
    private final boolean crowded;
    private int state;
    private int cells = 0;

    private ModelTest(int number) {
        name = "table " + number + ": ";
        state = number * 7919 + 17;
        crowded = number % 8 == 0;
    }

    public static void main(String[] args) {
        for (int number = 0; number < TABLES; number++) {
            new ModelTest(number).run();
        }
        DUE.holds("some tables were full of cells", fullOfCells > 20);
        DUE.holds("some tables were full of rows", fullOfRows > 20);
        DUE.holds("some tables were full of groups", fullOfGroups > 20);
        DUE.end();
    }

    /** A number from 0 up to but without n, the same in every run of the test. */
    private int pick(int n) {
        state = state * 1103515245 + 12345;
        return (state >>> 8) % n;
    }

    private void run() {
        int steps = crowded ? 100 + pick(300) : 4 + pick(60);
        int widest = 1 + pick(crowded ? 2 : 6);
        for (int i = 0; i < steps; i++) {
            step(widest);
            if (i % 100 == 24) {
                compare();
            }
        }
        compare();
    }

    private void step(int widest) {
        int kind = pick(100);
        if (kind < 4) {
            beginGroup();
        } else if (kind < (crowded ? 10 : 22)) {
            beginRow();
        } else if (kind < 30 && cells > 0) {
            chooseBorder();
        } else if (kind < 36) {
            chooseLayout();
        } else if (kind == 36 && !crowded) {
            DUE.is(name + "clear", table.change(t -> t.clear()), model.clear());
            cells = 0;
        } else if (kind < 42) {
            callWrongly();
        } else {
            putCell(widest);
        }
    }

    private void beginGroup() {
        int due = model.group();
        fullOfGroups += due < 0 ? 1 : 0;
        DUE.is(name + "group", table.change(t -> t.group()), due);
    }

    private void beginRow() {
        int due = model.row();
        fullOfRows += due < 0 ? 1 : 0;
        DUE.is(name + "row", table.change(t -> t.row()), due);
    }

    private void chooseBorder() {
        int k = pick(cells);
        int thickness = pick(10);
        int rank = pick(5);
        DUE.is(name + "border", table.change(t -> t.border(k, thickness, rank) ? 1 : 0), 1);
        model.border(k, thickness, rank);
    }

    private void chooseLayout() {
        int space = pick(2) == 0 ? pick(10001) : pick(1200);
        int gap = pick(3) == 0 ? 0 : pick(21);
        boolean fixed = pick(3) == 0;
        DUE.is(name + "layout", table.change(t -> t.layout(space, gap, fixed) ? 1 : 0), 1);
        model.layout(space, gap, fixed);
    }

    private void putCell(int widest) {
        int columns = 1 + pick(widest);
        int rows = crowded && pick(4) > 0 ? 1 : pick(7);
        int most = pick(4) == 0 ? 0 : pick(pick(2) == 0 ? 60 : 1001);
        int least = pick(most + 1);
        int need = pick(pick(2) == 0 ? 40 : 1001);
        int due = model.cell(columns, rows, least, most, need);
        DUE.is(name + "cell", table.change(t -> t.cell(columns, rows, least, most, need)), due);
        fullOfCells += cells == 40 ? 1 : 0;
        cells = due < 0 ? cells : due + 1;
    }

    /** A call with one argument that is never right; the model does not even hear of it. */
    private void callWrongly() {
        int wrong = BEYOND[pick(BEYOND.length)];
        int[] c = {1, 1, 1, 1, 1};
        int place = pick(10);
        if (place < 5) {
            c[place] = wrong;
            DUE.is(name + "wrong cell", table.change(t -> t.cell(c[0], c[1], c[2], c[3], c[4])), -1);
        } else if (place < 8) {
            int k = place == 5 ? wrong : 0;
            int thickness = place == 6 ? wrong : 9;
            int rank = place == 7 ? wrong : 3;
            DUE.is(name + "wrong border", table.change(t -> t.border(k, thickness, rank) ? 1 : 0), 0);
        } else {
            int space = place == 8 ? wrong : 77;
            int gap = place == 9 ? wrong : 7;
            boolean fixed = pick(2) == 0;
            DUE.is(name + "wrong layout", table.change(t -> t.layout(space, gap, fixed) ? 1 : 0), 0);
        }
    }

    private void compare() {
        PaintedTable asked = model.asked();
        DUE.is(name + "columns", table.ask(t -> t.columns()), asked.columns());
        DUE.is(name + "rows", table.ask(t -> t.rows()), asked.rows());
        DUE.is(name + "overlaps", table.ask(t -> t.overlaps()), asked.overlaps());
        DUE.is(name + "empties", table.ask(t -> t.empties()), asked.empties());
        DUE.is(name + "size across", table.ask(t -> t.size(false)), asked.size(false));
        DUE.is(name + "size down", table.ask(t -> t.size(true)), asked.size(true));
        compareOutside();
        compareSlots(asked);
        compareCells(asked);
        compareLines(asked);
    }

    private void compareOutside() {
        int i = BEYOND[pick(BEYOND.length)];
        DUE.is(name + "slot " + i, table.ask(t -> t.slot(i, 0)), -1);
        DUE.is(name + "slot 0, " + i, table.ask(t -> t.slot(0, i)), -1);
        DUE.is(name + "edge " + i, table.ask(t -> t.edge(i, 0, false)), -1);
        DUE.is(name + "edge 0, " + i, table.ask(t -> t.edge(0, i, true)), -1);
        DUE.is(name + "span " + i, table.ask(t -> t.span(i)), -1);
        DUE.is(name + "wide " + i, table.ask(t -> t.wide(i, 0)), -1);
        DUE.is(name + "high " + i, table.ask(t -> t.high(i)), -1);
        DUE.is(name + "place 0, " + i, table.ask(t -> t.place(0, i)), -1);
    }

    private void compareSlots(PaintedTable asked) {
        int columns = asked.columns() + 2;
        int rows = asked.rows() + 2;
        for (int i = 0; i < columns * rows; i++) {
            int x = i % columns - 1;
            int y = i / columns - 1;
            String at = name + x + ", " + y;
            DUE.is(at + " slot", table.ask(t -> t.slot(x, y)), asked.slot(x, y));
            DUE.is(at + " edge", table.ask(t -> t.edge(x, y, false)), asked.edge(x, y, false));
            DUE.is(at + " edge down", table.ask(t -> t.edge(x, y, true)), asked.edge(x, y, true));
        }
    }

    private void compareCells(PaintedTable asked) {
        for (int i = 0; i < cells; i++) {
            int k = i;
            DUE.is(name + "span " + k, table.ask(t -> t.span(k)), asked.span(k));
            for (int j = 0; j <= 3; j++) {
                int what = j;
                DUE.is(name + "place " + k + ", " + what, table.ask(t -> t.place(k, what)), asked.place(k, what));
            }
        }
    }

    private void compareLines(PaintedTable asked) {
        int[][] measures = asked.measures();
        int[] widths = asked.widths();
        int[] heights = asked.heights();
        for (int i = 0; i < widths.length; i++) {
            int x = i;
            DUE.is(name + "least " + x, table.ask(t -> t.wide(x, 0)), measures[0][x]);
            DUE.is(name + "most " + x, table.ask(t -> t.wide(x, 1)), measures[1][x]);
            DUE.is(name + "width " + x, table.ask(t -> t.wide(x, 2)), widths[x]);
        }
        for (int i = 0; i < heights.length; i++) {
            int y = i;
            DUE.is(name + "height " + y, table.ask(t -> t.high(y)), heights[y]);
        }
    }
}
