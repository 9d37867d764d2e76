/** Promises 5 and 18: the borders of cells, and which of two is drawn. */
public final class BordersTest {
    private static final int NONE = SpannedCells.NONE;
    private static final Due DUE = new Due("BordersTest");

    public static void main(String[] args) {
        borderRefusesWrongNumbers();
        refusedBorderChangesNothing();
        nothingIsDrawnInsideACell();
        theOnlyCellIsDrawn();
        hidingPrevails();
        thicknessGoesBeforeRank();
        sameForSlotsBelow();
        edgeRefusesWrongSlots();
        overlappedSlotsBelongToTheFirst();
        DUE.end();
    }

    /** Cells 0 and 1 side by side, cell 2 below cell 0, and a free slot below cell 1. */
    private static SpannedCells threeCells() {
        SpannedCells t = new SpannedCells();
        t.row();
        t.cell(1, 1, 0, 0, 0);
        t.cell(1, 1, 0, 0, 0);
        t.row();
        t.cell(1, 1, 0, 0, 0);
        return t;
    }

    private static void borderRefusesWrongNumbers() {
        SpannedCells t = threeCells();
        DUE.holds("the least border", t.border(0, 0, 0));
        DUE.holds("the greatest border", t.border(2, 9, 4));
        DUE.fails("no such cell", t.border(3, 1, 1));
        DUE.fails("cell -1", t.border(-1, 1, 1));
        DUE.fails("cell far out", t.border(Integer.MAX_VALUE, 1, 1));
        DUE.fails("thickness -1", t.border(0, -1, 1));
        DUE.fails("thickness 10", t.border(0, 10, 1));
        DUE.fails("rank -1", t.border(0, 1, -1));
        DUE.fails("rank 5", t.border(0, 1, 5));
    }

    private static void refusedBorderChangesNothing() {
        SpannedCells t = threeCells();
        t.border(1, 9, 5);
        t.border(1, 10, 4);
        t.border(1, -1, 4);
        t.border(1, 9, -1);
        DUE.is("both are as at first", t.edge(0, 0, false), 0);
        t.border(1, 1, 0);
        DUE.is("now the second one's", t.edge(0, 0, false), 1);
        t.border(1, 0, 0);
        DUE.is("and the first one's again", t.edge(0, 0, false), 0);
    }

    private static void nothingIsDrawnInsideACell() {
        SpannedCells t = new SpannedCells();
        t.row();
        t.cell(2, 2, 0, 0, 0);
        t.border(0, 5, 3);
        DUE.is("between its columns", t.edge(0, 0, false), NONE);
        DUE.is("between its rows", t.edge(0, 0, true), NONE);
        DUE.is("but on its right", t.edge(1, 1, false), 0);
        DUE.is("and below it", t.edge(1, 1, true), 0);
        t.row();
        t.row();
        t.row();
        DUE.is("between free slots", t.edge(0, 2, false), NONE);
        DUE.is("between free slots down", t.edge(0, 2, true), NONE);
        DUE.is("between a free slot and the outside", t.edge(1, 3, false), NONE);
        DUE.is("between a free slot and what is below", t.edge(1, 3, true), NONE);
    }

    private static void theOnlyCellIsDrawn() {
        SpannedCells t = threeCells();
        DUE.is("beside a free slot", t.edge(0, 1, false), 2);
        DUE.is("above a free slot", t.edge(1, 0, true), 1);
        DUE.is("right of it is outside", t.edge(1, 0, false), 1);
        DUE.is("below it is outside", t.edge(0, 1, true), 2);
        t.border(2, 3, 4);
        DUE.is("a hiding one, too", t.edge(0, 1, false), 2);
        SpannedCells low = new SpannedCells();
        low.row();
        low.row();
        low.cell(1, 1, 0, 0, 0);
        DUE.is("below a free slot", low.edge(0, 0, true), 0);
    }

    private static int between(int thickness0, int rank0, int thickness1, int rank1) {
        SpannedCells t = threeCells();
        t.border(0, thickness0, rank0);
        t.border(1, thickness1, rank1);
        return t.edge(0, 0, false);
    }

    private static void hidingPrevails() {
        DUE.is("the second hides", between(9, 3, 0, 4), 1);
        DUE.is("the first hides", between(0, 4, 9, 3), 0);
        DUE.is("both hide, the second is thicker", between(0, 4, 9, 4), 0);
        DUE.is("both hide, the first is thicker", between(9, 4, 0, 4), 0);
    }

    private static void thicknessGoesBeforeRank() {
        DUE.is("the second is thicker", between(2, 3, 3, 0), 1);
        DUE.is("the first is thicker", between(3, 0, 2, 3), 0);
        DUE.is("alike, the second ranks higher", between(4, 1, 4, 2), 1);
        DUE.is("alike, the first ranks higher", between(4, 2, 4, 1), 0);
        DUE.is("alike in all", between(4, 2, 4, 2), 0);
    }

    private static void sameForSlotsBelow() {
        SpannedCells t = threeCells();
        DUE.is("alike: the upper one", t.edge(0, 0, true), 0);
        t.border(2, 0, 1);
        DUE.is("the lower one ranks higher", t.edge(0, 0, true), 2);
        t.border(0, 1, 0);
        DUE.is("the upper one is thicker", t.edge(0, 0, true), 0);
        t.border(2, 0, 4);
        DUE.is("the lower one hides", t.edge(0, 0, true), 2);
    }

    private static void edgeRefusesWrongSlots() {
        SpannedCells t = threeCells();
        DUE.is("left of the table", t.edge(-1, 0, false), NONE);
        DUE.is("above the table", t.edge(0, -1, true), NONE);
        DUE.is("right of the table", t.edge(2, 0, false), NONE);
        DUE.is("below the table", t.edge(0, 2, true), NONE);
        DUE.is("far out", t.edge(Integer.MAX_VALUE, Integer.MAX_VALUE, true), NONE);
        DUE.is("far out on the other side", t.edge(Integer.MIN_VALUE, Integer.MIN_VALUE, false), NONE);
    }

    private static void overlappedSlotsBelongToTheFirst() {
        SpannedCells t = new SpannedCells();
        t.row();
        t.cell(1, 1, 0, 0, 0);
        t.cell(1, 2, 0, 0, 0);
        t.row();
        t.cell(2, 1, 0, 0, 0);
        t.border(2, 5, 3);
        DUE.is("between the cell and the slot it shares", t.edge(0, 1, false), 2);
        DUE.is("right of the shared slot", t.edge(1, 1, false), 1);
        DUE.is("inside the first cell", t.edge(1, 0, true), NONE);
    }
}
