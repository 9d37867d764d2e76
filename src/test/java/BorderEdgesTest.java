/** The boundary cases of promises 5 and 18 and of the terms they use, sentence by sentence. */
public final class BorderEdgesTest {
    private static final int NONE = SpannedCells.NONE;
    private static final int MIN = Integer.MIN_VALUE;
    private static final int MAX = Integer.MAX_VALUE;
    private static final Due DUE = new Due("BorderEdgesTest");

    public static void main(String[] args) {
        borderOfNoCell();
        thicknessIsUpToNine();
        rankIsUpToFour();
        borderAtFirst();
        laterBorderCounts();
        sameCellDrawsNothing();
        noCellsDrawNothing();
        oneCellIsDrawnWhateverItsBorder();
        everyPairOfBorders();
        slotsOutsideHaveNoCell();
        edgeOfNoSlot();
        edgeAtTheLastSlots();
        edgeBetweenGroups();
        edgeOfOverlaps();
        DUE.end();
    }

    private static int plain(SpannedCells t, int columns, int rows) {
        return t.cell(columns, rows, 0, 0, 0);
    }

    /** Cells 0 and 1 side by side, and cell 2 below cell 0; slot 1, 1 is free. */
    private static SpannedCells threeCells() {
        SpannedCells t = new SpannedCells();
        t.row();
        plain(t, 1, 1);
        plain(t, 1, 1);
        t.row();
        plain(t, 1, 1);
        return t;
    }

    private static void borderOfNoCell() {
        DUE.by("5: false when there is no such cell");
        SpannedCells t = new SpannedCells();
        DUE.fails("a new table", t.border(0, 0, 0));
        t.row();
        DUE.fails("a row without cells", t.border(0, 0, 0));
        for (int k = 0; k < 3; k++) {
            DUE.fails("not yet", t.border(k, 0, 0));
            plain(t, 1, 1);
            DUE.holds("now", t.border(k, 0, 0));
        }
        for (int k : new int[] {3, 39, 40, -1, MIN, MAX}) {
            DUE.fails("cell " + k, t.border(k, 0, 0));
        }
        t.clear();
        DUE.fails("after clear", t.border(0, 0, 0));
    }

    private static void thicknessIsUpToNine() {
        DUE.by("5: false when thickness is not as it must be");
        for (int thickness : new int[] {MIN, -1, 0, 1, 8, 9, 10, MAX}) {
            SpannedCells t = threeCells();
            boolean right = 0 <= thickness && thickness <= 9;
            DUE.is("thickness " + thickness, t.border(1, thickness, 0) ? 1 : 0, right ? 1 : 0);
            DUE.is("thickness " + thickness + ": then", t.edge(0, 0, false), right && thickness > 0 ? 1 : 0);
        }
    }

    private static void rankIsUpToFour() {
        DUE.by("5: false when rank is not as it must be");
        for (int rank : new int[] {MIN, -1, 0, 1, 3, 4, 5, MAX}) {
            SpannedCells t = threeCells();
            boolean right = 0 <= rank && rank <= 4;
            DUE.is("rank " + rank, t.border(1, 0, rank) ? 1 : 0, right ? 1 : 0);
            DUE.is("rank " + rank + ": then", t.edge(0, 0, false), right && rank > 0 ? 1 : 0);
        }
    }

    private static void borderAtFirst() {
        DUE.by("5: a BORDER with a thickness and a rank, at first 0 and 0");
        SpannedCells t = threeCells();
        DUE.is("alike", t.edge(0, 0, false), 0);
        t.border(0, 0, 0);
        DUE.is("still alike", t.edge(0, 0, false), 0);
        t.border(1, 0, 0);
        DUE.is("both as at first", t.edge(0, 0, false), 0);
        t.border(1, 0, 1);
        DUE.is("rank 1 is more", t.edge(0, 0, false), 1);
        t.border(1, 1, 0);
        DUE.is("thickness 1 is more", t.edge(0, 0, false), 1);
    }

    private static void laterBorderCounts() {
        DUE.by("5: The border of cell k becomes so");
        SpannedCells t = threeCells();
        t.border(1, 9, 4);
        t.border(1, 0, 0);
        DUE.is("back to nothing", t.edge(0, 0, false), 0);
        t.border(2, 9, 3);
        DUE.is("that of another cell", t.edge(0, 0, false), 0);
        DUE.is("is that one's alone", t.edge(0, 0, true), 2);
    }

    private static void sameCellDrawsNothing() {
        DUE.by("18: if c is d, nothing is drawn");
        SpannedCells t = new SpannedCells();
        t.row();
        plain(t, 6, 6);
        t.border(0, 9, 4);
        for (int i = 0; i < 5; i++) {
            DUE.is("between columns", t.edge(i, 5, false), NONE);
            DUE.is("between rows", t.edge(5, i, true), NONE);
        }
        SpannedCells grown = new SpannedCells();
        grown.row();
        plain(grown, 1, 0);
        DUE.is("below a growing cell", grown.edge(0, 0, true), 0);
        grown.row();
        DUE.is("inside it, when it has grown", grown.edge(0, 0, true), NONE);
        DUE.is("below it", grown.edge(0, 1, true), 0);
    }

    private static void noCellsDrawNothing() {
        DUE.by("18: NONE when nothing is: neither slot has a cell");
        SpannedCells t = new SpannedCells();
        t.row();
        plain(t, 2, 1);
        t.row();
        t.row();
        DUE.is("two free slots", t.edge(0, 1, false), NONE);
        DUE.is("two free slots, down", t.edge(0, 1, true), NONE);
        DUE.is("a free slot and the outside", t.edge(1, 1, false), NONE);
        DUE.is("a free slot and the outside, down", t.edge(0, 2, true), NONE);
        DUE.is("the last slot", t.edge(1, 2, false) + t.edge(1, 2, true), 2 * NONE);
    }

    private static void oneCellIsDrawnWhateverItsBorder() {
        DUE.by("18: if one of them is none, the other one's border is drawn");
        for (int rank = 0; rank <= 4; rank++) {
            SpannedCells t = new SpannedCells();
            t.row();
            plain(t, 1, 1);
            plain(t, 1, 1);
            t.row();
            t.row();
            plain(t, 1, 1);
            t.border(0, 0, rank);
            t.border(1, 0, rank);
            t.border(2, 0, rank);
            DUE.is("the upper one", t.edge(0, 0, true), 0);
            DUE.is("the lower one", t.edge(0, 1, true), 2);
            DUE.is("the left one", t.edge(0, 2, false), 2);
            DUE.is("at the right end", t.edge(1, 0, false), 1);
            DUE.is("at the lower end", t.edge(0, 2, true), 2);
        }
        SpannedCells right = new SpannedCells();
        right.row();
        plain(right, 1, 1);
        plain(right, 1, 2);
        right.row();
        DUE.is("the right one", right.edge(0, 1, false), 1);
    }

    /** The document's words in their order. */
    private static int dueOf(int thickness, int rank, int thickness1, int rank1) {
        if (rank == 4 || rank1 == 4) {
            return rank == 4 ? 0 : 1;
        }
        if (thickness != thickness1) {
            return thickness > thickness1 ? 0 : 1;
        }
        return rank1 > rank ? 1 : 0;
    }

    private static void everyPairOfBorders() {
        DUE.by("18: the one of rank 4, c's if both are; greater thickness; greater rank; else c's");
        for (int first = 0; first < 50; first++) {
            for (int second = 0; second < 50; second++) {
                SpannedCells t = threeCells();
                t.border(0, first / 5, first % 5);
                t.border(1, second / 5, second % 5);
                t.border(2, second / 5, second % 5);
                int due = dueOf(first / 5, first % 5, second / 5, second % 5);
                String when = first / 5 + ", " + first % 5 + " and " + second / 5 + ", " + second % 5;
                DUE.is(when, t.edge(0, 0, false), due);
                DUE.is(when + ", down", t.edge(0, 0, true), due == 0 ? 0 : 2);
            }
        }
    }

    private static void slotsOutsideHaveNoCell() {
        DUE.by("18: slots outside have no cell");
        SpannedCells t = threeCells();
        t.border(0, 9, 4);
        DUE.is("right of the last column", t.edge(1, 0, false), 1);
        DUE.is("below the last row", t.edge(0, 1, true), 2);
        DUE.is("right of a free slot", t.edge(1, 1, false), NONE);
        DUE.is("below a free slot", t.edge(1, 1, true), NONE);
    }

    private static void edgeOfNoSlot() {
        DUE.by("18: NONE when x, y is no slot");
        SpannedCells t = threeCells();
        for (int at : new int[] {-1, 2, 3, 12, MIN, MAX}) {
            for (boolean down : new boolean[] {false, true}) {
                DUE.is("column " + at, t.edge(at, 0, down), NONE);
                DUE.is("row " + at, t.edge(0, at, down), NONE);
                DUE.is("column and row " + at, t.edge(at, at, down), NONE);
            }
        }
        SpannedCells bare = new SpannedCells();
        bare.row();
        DUE.is("a row without columns", bare.edge(0, 0, false), NONE);
        DUE.is("a row without columns, down", bare.edge(0, 0, true), NONE);
    }

    private static void edgeAtTheLastSlots() {
        DUE.by("18: slots outside have no cell: of twelve columns and rows");
        SpannedCells t = new SpannedCells();
        t.row();
        plain(t, 6, 0);
        plain(t, 6, 0);
        for (int y = 1; y < 12; y++) {
            t.row();
        }
        DUE.is("right of column 11", t.edge(11, 11, false), 1);
        DUE.is("below row 11", t.edge(11, 11, true), 1);
        DUE.is("below row 11, at the left", t.edge(0, 11, true), 0);
        DUE.is("between both", t.edge(5, 11, false), 0);
        DUE.is("column 12", t.edge(12, 11, false), NONE);
        DUE.is("row 12", t.edge(11, 12, true), NONE);
    }

    private static void edgeBetweenGroups() {
        DUE.by("18: or below it: in another group");
        SpannedCells t = new SpannedCells();
        t.row();
        plain(t, 1, 0);
        t.group();
        t.row();
        plain(t, 1, 0);
        DUE.is("alike: the upper one", t.edge(0, 0, true), 0);
        t.border(1, 1, 0);
        DUE.is("the lower one is thicker", t.edge(0, 0, true), 1);
    }

    private static void edgeOfOverlaps() {
        DUE.by("18: The first of the cells that take a slot, by number, is the slot's cell");
        SpannedCells t = new SpannedCells();
        t.row();
        plain(t, 1, 1);
        plain(t, 1, 2);
        plain(t, 1, 1);
        t.row();
        plain(t, 3, 1);
        t.border(3, 1, 0);
        DUE.is("left of the slot that cell 1 keeps", t.edge(0, 1, false), 3);
        DUE.is("right of it", t.edge(1, 1, false), 3);
        DUE.is("below cell 1, inside it", t.edge(1, 0, true), NONE);
        DUE.is("below it at the end", t.edge(1, 1, true), 1);
    }
}
