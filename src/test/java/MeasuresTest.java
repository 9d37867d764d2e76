/** Promises 6 and 14 to 17: the layout, the widths and heights, and where the cells lie. */
public final class MeasuresTest {
    private static final int NONE = SpannedCells.NONE;
    private static final Due DUE = new Due("MeasuresTest");

    public static void main(String[] args) {
        layoutRefusesWrongNumbers();
        refusedLayoutChangesNothing();
        wideRefusesOtherColumns();
        columnTakesItsGreatestCell();
        excessIsSharedByMostWidths();
        narrowCellsGoFirst();
        equalCellsGoByNumber();
        mostIsAtLeastLeast();
        gapsCountForWideCells();
        leastWidthsWhenThereIsNoMoreRoom();
        roomBetweenLeastAndMost();
        roomBeyondMost();
        roomForColumnsWithoutMost();
        fixedCountsRowZeroAlone();
        fixedTakesGapsOff();
        fixedWithoutCellsInRowZero();
        fixedWidthOfZeroIsAWidth();
        fixedForgetsTheOtherWay();
        fixedLeavesMeasuresAlone();
        heightsOfSingleRows();
        heightsOfSpannedRows();
        heightsOfALongGrowingCell();
        lowCellsGoFirst();
        equallyLowCellsGoByNumber();
        highRefusesOtherRows();
        placesWithGaps();
        placeRefusesOthers();
        sizeWithGaps();
        sizeNeedsColumns();
        DUE.end();
    }

    /** Asks the least (0), the most (1) or the chosen widths (2) of all columns. */
    private static void askWidths(String when, SpannedCells t, int what, int... due) {
        DUE.is(when + ": columns", t.columns(), due.length);
        for (int x = 0; x < due.length; x++) {
            DUE.is(when + ": wide(" + x + ", " + what + ")", t.wide(x, what), due[x]);
        }
    }

    private static void askHeights(String when, SpannedCells t, int... due) {
        DUE.is(when + ": rows", t.rows(), due.length);
        for (int y = 0; y < due.length; y++) {
            DUE.is(when + ": high(" + y + ")", t.high(y), due[y]);
        }
    }

    /** One row of cells of one column, with these least and most widths in turn. */
    private static SpannedCells oneRow(int... leastAndMost) {
        SpannedCells t = new SpannedCells();
        t.row();
        for (int i = 0; i < leastAndMost.length; i += 2) {
            t.cell(1, 1, leastAndMost[i], leastAndMost[i + 1], 0);
        }
        return t;
    }

    private static void layoutRefusesWrongNumbers() {
        SpannedCells t = new SpannedCells();
        DUE.holds("the least", t.layout(0, 0, false));
        DUE.holds("the greatest", t.layout(10000, 20, true));
        DUE.fails("space -1", t.layout(-1, 0, false));
        DUE.fails("space 10001", t.layout(10001, 0, false));
        DUE.fails("gap -1", t.layout(0, -1, false));
        DUE.fails("gap 21", t.layout(0, 21, false));
        DUE.fails("space far out", t.layout(Integer.MAX_VALUE, 0, false));
        DUE.fails("gap far out", t.layout(0, Integer.MIN_VALUE, false));
    }

    private static void refusedLayoutChangesNothing() {
        SpannedCells t = oneRow(10, 20);
        t.layout(100, 3, false);
        t.layout(10001, 4, true);
        t.layout(50, 21, true);
        DUE.is("still the space and the way", t.wide(0, 2), 94);
        DUE.is("still the gap", t.place(0, 0), 3);
    }

    private static void wideRefusesOtherColumns() {
        SpannedCells t = oneRow(3, 9, 4, 8);
        for (int what = 0; what <= 2; what++) {
            DUE.is("column 2", t.wide(2, what), NONE);
            DUE.is("column -1", t.wide(-1, what), NONE);
            DUE.is("far out", t.wide(Integer.MAX_VALUE, what), NONE);
            DUE.is("far out on the other side", t.wide(Integer.MIN_VALUE, what), NONE);
        }
        t.layout(100, 0, false);
        int width = t.wide(1, 2);
        DUE.is("the width", width, 47);
        DUE.is("any other what", t.wide(1, 3), width);
        DUE.is("what -1", t.wide(1, -1), width);
        DUE.is("what far out", t.wide(1, Integer.MIN_VALUE), width);
    }

    private static void columnTakesItsGreatestCell() {
        SpannedCells t = oneRow(3, 9, 1000, 1000);
        t.row();
        t.cell(1, 1, 5, 6, 0);
        t.row();
        t.cell(1, 1, 4, 7, 0);
        askWidths("greatest least", t, 0, 5, 1000);
        askWidths("greatest most", t, 1, 9, 1000);
    }

    private static void excessIsSharedByMostWidths() {
        SpannedCells t = new SpannedCells();
        t.row();
        t.cell(3, 1, 31, 60, 0);
        t.row();
        t.cell(1, 1, 1, 10, 0);
        t.cell(1, 1, 2, 20, 0);
        t.cell(1, 1, 3, 5, 0);
        // 25 by 10, 20, 5: 7, 14, 3, and one more for the first; likewise for the most widths
        askWidths("shared least", t, 0, 9, 16, 6);
        askWidths("shared most", t, 1, 18, 34, 8);
        SpannedCells without = new SpannedCells();
        without.row();
        without.cell(3, 1, 8, 10, 0);
        askWidths("without weights, least", without, 0, 3, 3, 2);
        askWidths("without weights, most", without, 1, 4, 3, 3);
    }

    private static void narrowCellsGoFirst() {
        SpannedCells t = new SpannedCells();
        t.row();
        t.cell(3, 1, 30, 30, 0);
        t.row();
        t.cell(2, 1, 20, 20, 0);
        askWidths("two before three", t, 0, 15, 15, 0);
    }

    private static void equalCellsGoByNumber() {
        SpannedCells t = new SpannedCells();
        t.row();
        t.cell(2, 1, 10, 10, 0);
        t.row();
        t.cell(1, 1, 0, 0, 0);
        t.cell(2, 1, 40, 40, 0);
        // by the first 5, 5; then 35 more all in column 1, as column 2 has no most width
        askWidths("by number", t, 0, 5, 40, 0);
    }

    private static void mostIsAtLeastLeast() {
        SpannedCells t = oneRow(0, 0, 0, 5, 0, 6);
        t.row();
        t.cell(3, 1, 10, 11, 0);
        askWidths("what is left goes to the first", t, 0, 1, 4, 5);
        askWidths("so its most width grows", t, 1, 1, 5, 6);
    }

    private static void gapsCountForWideCells() {
        SpannedCells t = oneRow(4, 6, 1, 2);
        t.row();
        t.cell(2, 1, 10, 10, 0);
        t.layout(0, 1, false);
        askWidths("one gap, least", t, 0, 7, 2);
        askWidths("one gap, most", t, 1, 7, 2);
        t.layout(0, 5, false);
        askWidths("gap enough, least", t, 0, 4, 1);
        askWidths("gap enough, most", t, 1, 6, 2);
    }

    private static void leastWidthsWhenThereIsNoMoreRoom() {
        SpannedCells t = oneRow(10, 20, 5, 50);
        askWidths("no space", t, 2, 10, 5);
        t.layout(15, 0, false);
        askWidths("just the least", t, 2, 10, 5);
        t.layout(20, 20, false);
        askWidths("less than the gaps", t, 2, 10, 5);
        t.layout(75, 20, false);
        askWidths("the least with gaps", t, 2, 10, 5);
    }

    private static void roomBetweenLeastAndMost() {
        SpannedCells t = oneRow(10, 20, 5, 50);
        t.layout(16, 0, false);
        askWidths("one more", t, 2, 11, 5);
        t.layout(40, 0, false);
        // 25 by 10 and 45: 4 and 20, and one more for the first
        askWidths("25 more", t, 2, 15, 25);
        t.layout(43, 1, false);
        askWidths("25 more with gaps", t, 2, 15, 25);
        t.layout(70, 0, false);
        askWidths("just the most", t, 2, 20, 50);
    }

    private static void roomBeyondMost() {
        SpannedCells t = oneRow(10, 20, 5, 50);
        t.layout(71, 0, false);
        askWidths("one more", t, 2, 21, 50);
        t.layout(170, 0, false);
        // 100 by 20 and 50: 28 and 71, and one more for the first
        askWidths("100 more", t, 2, 49, 121);
        t.layout(10000, 20, false);
        // 9870 by 20 and 50
        askWidths("the greatest space", t, 2, 2840, 7100);
    }

    private static void roomForColumnsWithoutMost() {
        SpannedCells t = oneRow(0, 0, 0, 0, 0, 0);
        t.layout(11, 0, false);
        askWidths("all weights are alike", t, 2, 4, 4, 3);
    }

    private static void fixedCountsRowZeroAlone() {
        SpannedCells t = oneRow(10, 90, 20, 90);
        t.row();
        t.cell(1, 1, 500, 500, 0);
        t.cell(1, 1, 500, 500, 0);
        t.cell(3, 1, 500, 500, 0);
        t.layout(101, 0, true);
        askWidths("the others share the room", t, 2, 10, 20, 24, 24, 23);
        t.layout(101, 2, true);
        askWidths("less with gaps", t, 2, 10, 20, 20, 20, 19);
        t.layout(29, 0, true);
        askWidths("no room", t, 2, 10, 20, 0, 0, 0);
        t.layout(0, 0, true);
        askWidths("far less than the widths given", t, 2, 10, 20, 0, 0, 0);
        t.layout(101, 0, false);
        askWidths("not fixed", t, 2, 500, 500, 167, 167, 166);
    }

    private static void fixedTakesGapsOff() {
        SpannedCells t = new SpannedCells();
        t.row();
        t.cell(3, 1, 30, 30, 0);
        t.cell(2, 1, 4, 4, 0);
        t.layout(500, 4, true);
        askWidths("less the gaps between", t, 2, 8, 7, 7, 0, 0);
        t.layout(500, 5, true);
        askWidths("at least 0", t, 2, 7, 7, 6, 0, 0);
        DUE.is("the table does not fill the space", t.size(false), 50);
        t.layout(500, 20, true);
        askWidths("gaps far greater than the cells", t, 2, 0, 0, 0, 0, 0);
    }

    private static void fixedWithoutCellsInRowZero() {
        SpannedCells t = new SpannedCells();
        t.row();
        t.row();
        t.cell(3, 1, 30, 30, 0);
        t.layout(20, 0, true);
        askWidths("equal shares of the room", t, 2, 7, 7, 6);
    }

    private static void fixedWidthOfZeroIsAWidth() {
        SpannedCells t = oneRow(0, 50);
        t.row();
        t.cell(2, 1, 30, 30, 0);
        t.layout(20, 0, true);
        askWidths("only the second one has none", t, 2, 0, 20);
    }

    private static void fixedForgetsTheOtherWay() {
        SpannedCells t = new SpannedCells();
        t.row();
        t.row();
        t.cell(1, 1, 0, 10, 0);
        t.cell(1, 1, 0, 30, 0);
        t.layout(20, 0, false);
        askWidths("shared by what the most widths are more", t, 2, 5, 15);
        t.layout(20, 0, true);
        askWidths("shared with equal weights", t, 2, 10, 10);
        t.layout(20, 0, false);
        askWidths("and again", t, 2, 5, 15);
    }

    private static void fixedLeavesMeasuresAlone() {
        SpannedCells t = oneRow(1, 2);
        t.row();
        t.cell(1, 1, 5, 8, 0);
        t.layout(100, 0, true);
        askWidths("least", t, 0, 5);
        askWidths("most", t, 1, 8);
        askWidths("width", t, 2, 1);
    }

    private static void heightsOfSingleRows() {
        SpannedCells t = new SpannedCells();
        t.row();
        t.cell(1, 1, 0, 0, 7);
        t.cell(1, 1, 0, 0, 9);
        t.cell(1, 1, 0, 0, 8);
        t.row();
        t.row();
        t.cell(1, 1, 0, 0, 1000);
        askHeights("the greatest need", t, 9, 0, 1000);
    }

    private static void heightsOfSpannedRows() {
        SpannedCells t = new SpannedCells();
        t.row();
        t.cell(1, 3, 0, 0, 50);
        t.cell(1, 1, 0, 0, 4);
        t.row();
        t.cell(1, 1, 0, 0, 8);
        t.row();
        t.cell(1, 1, 0, 0, 1);
        // 37 by 4, 8, 1: 11, 22, 2, and one more for the first two
        askHeights("shared by heights", t, 16, 31, 3);
        t.layout(0, 10, false);
        // 17 by 4, 8, 1: 5, 10, 1, and one more for the first
        askHeights("with gaps", t, 10, 18, 2);
        t.layout(0, 19, false);
        askHeights("gaps enough", t, 4, 8, 1);
    }

    private static void heightsOfALongGrowingCell() {
        SpannedCells t = new SpannedCells();
        t.row();
        t.cell(1, 0, 0, 0, 100);
        for (int y = 1; y < 8; y++) {
            t.row();
        }
        askHeights("without weights", t, 13, 13, 13, 13, 12, 12, 12, 12);
        t.layout(0, 1, false);
        askHeights("without weights, with gaps", t, 12, 12, 12, 12, 12, 11, 11, 11);
    }

    private static void lowCellsGoFirst() {
        SpannedCells t = new SpannedCells();
        t.row();
        t.cell(1, 0, 0, 0, 30);
        t.cell(1, 2, 0, 0, 20);
        t.row();
        t.row();
        askHeights("two before three", t, 15, 15, 0);
    }

    private static void equallyLowCellsGoByNumber() {
        SpannedCells t = new SpannedCells();
        t.row();
        t.cell(1, 2, 0, 0, 10);
        t.row();
        t.cell(1, 2, 0, 0, 40);
        // by the first 5, 5; then 35 more all in row 1, as row 2 has no height
        askHeights("by number", t, 5, 40, 0);
    }

    private static void highRefusesOtherRows() {
        SpannedCells t = new SpannedCells();
        t.row();
        DUE.is("a row without cells", t.high(0), 0);
        DUE.is("row 1", t.high(1), NONE);
        DUE.is("row -1", t.high(-1), NONE);
        DUE.is("far out", t.high(Integer.MAX_VALUE), NONE);
        DUE.is("far out on the other side", t.high(Integer.MIN_VALUE), NONE);
    }

    private static SpannedCells fourPlaces() {
        SpannedCells t = oneRow(10, 10, 20, 20, 30, 30);
        t.row();
        t.cell(1, 1, 0, 0, 5);
        t.cell(2, 2, 0, 0, 40);
        t.row();
        t.cell(1, 1, 0, 0, 6);
        t.layout(0, 3, false);
        return t;
    }

    private static void askPlace(String when, SpannedCells t, int k, int... due) {
        for (int what = 0; what < due.length; what++) {
            DUE.is(when + ": place(" + k + ", " + what + ")", t.place(k, what), due[what]);
        }
    }

    private static void placesWithGaps() {
        SpannedCells t = fourPlaces();
        // cell 4 needs 40 less 3 for 5 and 6: 26 more are 11 and 14, and one more for the first
        askHeights("rows of the places", t, 0, 17, 20);
        askPlace("first", t, 0, 3, 3, 10, 0);
        askPlace("third", t, 2, 39, 3, 30, 0);
        askPlace("over two columns and rows", t, 4, 16, 6, 53, 40);
        askPlace("last", t, 5, 3, 26, 10, 20);
    }

    private static void placeRefusesOthers() {
        SpannedCells t = fourPlaces();
        DUE.is("what 4", t.place(0, 4), NONE);
        DUE.is("what -1", t.place(0, -1), NONE);
        DUE.is("what far out", t.place(0, Integer.MAX_VALUE), NONE);
        for (int what = 0; what <= 3; what++) {
            DUE.is("cell 6", t.place(6, what), NONE);
            DUE.is("cell -1", t.place(-1, what), NONE);
            DUE.is("cell far out", t.place(Integer.MIN_VALUE, what), NONE);
        }
    }

    private static void sizeWithGaps() {
        SpannedCells t = fourPlaces();
        DUE.is("least widths and four gaps", t.size(false), 72);
        DUE.is("heights and four gaps", t.size(true), 49);
        t.layout(500, 3, false);
        DUE.is("the whole space", t.size(false), 500);
        DUE.is("heights as before", t.size(true), 49);
    }

    private static void sizeNeedsColumns() {
        SpannedCells t = new SpannedCells();
        t.layout(100, 5, false);
        DUE.is("no rows, across", t.size(false), 0);
        DUE.is("no rows, down", t.size(true), 0);
        t.row();
        t.row();
        DUE.is("no columns, across", t.size(false), 0);
        DUE.is("no columns, down", t.size(true), 0);
        t.cell(1, 1, 0, 0, 0);
        DUE.is("a column, across", t.size(false), 100);
        DUE.is("a column, down", t.size(true), 15);
    }
}
