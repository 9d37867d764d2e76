/** Builds many tables, always the same ones, and compares every answer with that of PaintedTable. */
public final class ModelTest {
    private static final int TABLES = 1500;
    private static final Due DUE = new Due("ModelTest");

    private final SpannedCells table = new SpannedCells();
    private final PaintedTable model = new PaintedTable();
    private final String name;
    private int state;
    private int cells = 0;

    private ModelTest(int number) {
        name = "table " + number + ": ";
        state = number * 7919 + 17;
    }

    public static void main(String[] args) {
        for (int number = 0; number < TABLES; number++) {
            new ModelTest(number).run();
        }
        DUE.end();
    }

    /** A number from 0 up to but without n, the same in every run of the test. */
    private int pick(int n) {
        state = state * 1103515245 + 12345;
        return (state >>> 8) % n;
    }

    private void run() {
        int steps = 4 + pick(60);
        int widest = 1 + pick(6);
        for (int i = 0; i < steps; i++) {
            step(widest);
            if (i % 25 == 24) {
                compare();
            }
        }
        compare();
    }

    private void step(int widest) {
        int kind = pick(100);
        if (kind < 4) {
            DUE.is(name + "group", table.group(), model.group());
        } else if (kind < 22) {
            DUE.is(name + "row", table.row(), model.row());
        } else if (kind < 30 && cells > 0) {
            int k = pick(cells);
            int thickness = pick(10);
            int rank = pick(5);
            DUE.holds(name + "border", table.border(k, thickness, rank));
            model.border(k, thickness, rank);
        } else if (kind < 36) {
            chooseLayout();
        } else if (kind == 36) {
            DUE.is(name + "clear", table.clear(), model.clear());
            cells = 0;
        } else {
            putCell(widest);
        }
    }

    private void chooseLayout() {
        int space = pick(2) == 0 ? pick(10001) : pick(1200);
        int gap = pick(3) == 0 ? 0 : pick(21);
        boolean fixed = pick(3) == 0;
        DUE.holds(name + "layout", table.layout(space, gap, fixed));
        model.layout(space, gap, fixed);
    }

    private void putCell(int widest) {
        int columns = 1 + pick(widest);
        int rows = pick(7);
        int most = pick(4) == 0 ? 0 : pick(pick(2) == 0 ? 60 : 1001);
        int least = pick(most + 1);
        int need = pick(pick(2) == 0 ? 40 : 1001);
        int put = table.cell(columns, rows, least, most, need);
        DUE.is(name + "cell", put, model.cell(columns, rows, least, most, need));
        cells = put < 0 ? cells : put + 1;
    }

    private void compare() {
        PaintedTable asked = model.asked();
        DUE.is(name + "columns", table.columns(), asked.columns());
        DUE.is(name + "rows", table.rows(), asked.rows());
        DUE.is(name + "overlaps", table.overlaps(), asked.overlaps());
        DUE.is(name + "empties", table.empties(), asked.empties());
        DUE.is(name + "size across", table.size(false), asked.size(false));
        DUE.is(name + "size down", table.size(true), asked.size(true));
        compareSlots(asked);
        compareCells(asked);
        compareLines(asked);
    }

    private void compareSlots(PaintedTable asked) {
        for (int y = -1; y <= asked.rows(); y++) {
            for (int x = -1; x <= asked.columns(); x++) {
                String at = name + x + ", " + y;
                DUE.is(at + " slot", table.slot(x, y), asked.slot(x, y));
                DUE.is(at + " edge", table.edge(x, y, false), asked.edge(x, y, false));
                DUE.is(at + " edge down", table.edge(x, y, true), asked.edge(x, y, true));
            }
        }
    }

    private void compareCells(PaintedTable asked) {
        for (int k = 0; k < cells; k++) {
            DUE.is(name + "span " + k, table.span(k), asked.span(k));
            for (int what = 0; what <= 3; what++) {
                DUE.is(name + "place " + k + ", " + what, table.place(k, what), asked.place(k, what));
            }
        }
    }

    private void compareLines(PaintedTable asked) {
        int[][] measures = asked.measures();
        int[] widths = asked.widths();
        int[] heights = asked.heights();
        for (int x = 0; x < widths.length; x++) {
            DUE.is(name + "least " + x, table.wide(x, 0), measures[0][x]);
            DUE.is(name + "most " + x, table.wide(x, 1), measures[1][x]);
            DUE.is(name + "width " + x, table.wide(x, 2), widths[x]);
        }
        for (int y = 0; y < heights.length; y++) {
            DUE.is(name + "height " + y, table.high(y), heights[y]);
        }
    }
}
