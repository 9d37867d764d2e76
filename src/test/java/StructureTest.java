/** Promises 1 to 4 and 7 to 13: groups, rows, cells, and the slots that these take. */
public final class StructureTest {
    private static final int NONE = SpannedCells.NONE;
    private static final Due DUE = new Due("StructureTest");

    public static void main(String[] args) {
        newObjectIsEmpty();
        newObjectHasNoSpaceNoGapAndIsNotFixed();
        groupCounts();
        groupBeginsBehindAllRows();
        refusedGroupChangesNothing();
        rowNumbersFollowOneAnother();
        rowBehindAFullTableIsRefused();
        refusedRowChangesNothing();
        cellNeedsARowOfTheLatestGroup();
        cellRefusesWrongNumbers();
        cellTakesTheEdges();
        cellsAreForty();
        cellKeepsToTwelveColumns();
        cellKeepsToTwelveRows();
        cellGoesToTheFirstFreeSlot();
        cellLooksOnlyBehindTheCellBefore();
        growingCellTakesLaterRows();
        growingCellEndsWithItsGroup();
        growingCellsMayBeginLate();
        clearEmptiesTheTable();
        clearBeginsTheRowsAgain();
        clearKeepsTheLayout();
        clearTakesBordersAway();
        columnsAndRowsAreCounted();
        slotsOutsideHaveNoCell();
        overlapsCountEveryCellButOne();
        emptiesCountWhereNoCellBegins();
        spanRefusesOtherNumbers();
        DUE.end();
    }

    private static int plain(SpannedCells t, int columns, int rows) {
        return t.cell(columns, rows, 0, 0, 0);
    }

    private static SpannedCells rowsBegun(int rows) {
        SpannedCells t = new SpannedCells();
        for (int y = 0; y < rows; y++) {
            t.row();
        }
        return t;
    }

    private static void askEmpty(String when, SpannedCells t) {
        DUE.is(when + ": columns", t.columns(), 0);
        DUE.is(when + ": rows", t.rows(), 0);
        DUE.is(when + ": slot", t.slot(0, 0), NONE);
        DUE.is(when + ": overlaps", t.overlaps(), 0);
        DUE.is(when + ": empties", t.empties(), 0);
        DUE.is(when + ": span", t.span(0), NONE);
        DUE.is(when + ": least", t.wide(0, 0), NONE);
        DUE.is(when + ": most", t.wide(0, 1), NONE);
        DUE.is(when + ": width", t.wide(0, 2), NONE);
        DUE.is(when + ": high", t.high(0), NONE);
        DUE.is(when + ": place", t.place(0, 0), NONE);
        DUE.is(when + ": size across", t.size(false), 0);
        DUE.is(when + ": size down", t.size(true), 0);
        DUE.is(when + ": edge across", t.edge(0, 0, false), NONE);
        DUE.is(when + ": edge down", t.edge(0, 0, true), NONE);
        DUE.fails(when + ": border", t.border(0, 1, 1));
        DUE.is(when + ": cell without a row", t.cell(1, 1, 0, 0, 0), NONE);
    }

    private static void newObjectIsEmpty() {
        SpannedCells t = new SpannedCells();
        askEmpty("new", t);
        DUE.is("new: clear", t.clear(), 0);
        DUE.is("new: the second group", t.group(), 2);
        DUE.is("new: the first row", t.row(), 0);
    }

    private static void newObjectHasNoSpaceNoGapAndIsNotFixed() {
        SpannedCells t = new SpannedCells();
        t.row();
        t.cell(1, 1, 5, 7, 3);
        t.row();
        t.cell(1, 1, 6, 6, 4);
        DUE.is("no space, and not fixed", t.wide(0, 2), 6);
        DUE.is("no gap across", t.size(false), 6);
        DUE.is("no gap down", t.size(true), 7);
    }

    private static void groupCounts() {
        SpannedCells t = new SpannedCells();
        for (int n = 2; n <= 8; n++) {
            DUE.is("group " + n, t.group(), n);
        }
        DUE.is("group 9", t.group(), NONE);
        DUE.is("group 9 again", t.group(), NONE);
        DUE.is("rows of empty groups", t.rows(), 0);
        DUE.is("row behind empty groups", t.row(), 0);
    }

    private static void groupBeginsBehindAllRows() {
        SpannedCells t = new SpannedCells();
        t.row();
        plain(t, 1, 4);
        t.row();
        t.group();
        DUE.is("behind the rows that a cell takes", t.row(), 4);
        t.row();
        t.group();
        DUE.is("behind the rows begun", t.row(), 6);
        DUE.is("rows of three groups", t.rows(), 7);
    }

    private static void refusedGroupChangesNothing() {
        SpannedCells t = new SpannedCells();
        for (int n = 2; n <= 8; n++) {
            t.group();
        }
        t.row();
        plain(t, 2, 3);
        t.group();
        DUE.is("the row is still of the latest group", plain(t, 1, 1), 1);
        DUE.is("and goes on", t.span(1), 1010002);
        DUE.is("the next row follows in the group", t.row(), 1);
    }

    private static void rowNumbersFollowOneAnother() {
        SpannedCells t = new SpannedCells();
        DUE.is("first row", t.row(), 0);
        plain(t, 1, 6);
        DUE.is("a row that a cell takes already", t.row(), 1);
        DUE.is("rows that the cell takes", t.rows(), 6);
        for (int y = 2; y < 12; y++) {
            DUE.is("row " + y, t.row(), y);
        }
        DUE.is("row 12", t.row(), NONE);
    }

    private static void rowBehindAFullTableIsRefused() {
        SpannedCells t = new SpannedCells();
        t.row();
        plain(t, 1, 6);
        t.group();
        t.row();
        plain(t, 1, 6);
        DUE.is("a group behind twelve rows", t.group(), 3);
        DUE.is("its first row would be 12", t.row(), NONE);
        DUE.is("so it has none for a cell", plain(t, 1, 1), NONE);
        DUE.is("still twelve rows", t.rows(), 12);
    }

    private static void refusedRowChangesNothing() {
        SpannedCells t = rowsBegun(12);
        plain(t, 3, 1);
        DUE.is("refused", t.row(), NONE);
        DUE.is("rows after it", t.rows(), 12);
        DUE.is("the latest row goes on", plain(t, 1, 1), 1);
        DUE.is("behind its cell", t.span(1), 1011103);
    }

    private static void cellNeedsARowOfTheLatestGroup() {
        SpannedCells t = new SpannedCells();
        DUE.is("no row at all", plain(t, 1, 1), NONE);
        t.row();
        DUE.is("a row", plain(t, 1, 1), 0);
        t.group();
        DUE.is("the latest row is of another group", plain(t, 1, 1), NONE);
        t.row();
        DUE.is("a row again", plain(t, 1, 1), 1);
        DUE.is("at column 0 of it", t.span(1), 1010100);
    }

    private static void cellRefusesWrongNumbers() {
        int[][] wrong = {
            {0, 1, 0, 0, 0}, {-1, 1, 0, 0, 0}, {7, 1, 0, 0, 0},
            {Integer.MAX_VALUE, 1, 0, 0, 0}, {Integer.MIN_VALUE, 1, 0, 0, 0},
            {1, -1, 0, 0, 0}, {1, 7, 0, 0, 0},
            {1, Integer.MAX_VALUE, 0, 0, 0}, {1, Integer.MIN_VALUE, 0, 0, 0},
            {1, 1, -1, 0, 0}, {1, 1, -2, -1, 0}, {1, 1, 1, 0, 0}, {1, 1, 0, 1001, 0},
            {1, 1, 1001, 1001, 0}, {1, 1, 1001, 1000, 0},
            {1, 1, Integer.MIN_VALUE, 5, 0}, {1, 1, 0, Integer.MAX_VALUE, 0},
            {1, 1, 0, 0, -1}, {1, 1, 0, 0, 1001},
            {1, 1, 0, 0, Integer.MAX_VALUE}, {1, 1, 0, 0, Integer.MIN_VALUE},
        };
        SpannedCells t = rowsBegun(1);
        for (int i = 0; i < wrong.length; i++) {
            int[] w = wrong[i];
            DUE.is("wrong cell " + i, t.cell(w[0], w[1], w[2], w[3], w[4]), NONE);
        }
        DUE.is("no columns after them", t.columns(), 0);
        DUE.is("one row after them", t.rows(), 1);
        DUE.is("the next one is number 0", plain(t, 1, 1), 0);
        DUE.is("at column 0", t.span(0), 1010000);
    }

    private static void cellTakesTheEdges() {
        SpannedCells t = rowsBegun(1);
        DUE.is("the greatest cell", t.cell(6, 6, 1000, 1000, 1000), 0);
        DUE.is("the smallest cell", t.cell(1, 1, 0, 0, 0), 1);
        DUE.is("a growing cell", t.cell(1, 0, 0, 1000, 0), 2);
        DUE.is("span of the greatest", t.span(0), 6060000);
        DUE.is("span of the smallest", t.span(1), 1010006);
        DUE.is("span of the growing one", t.span(2), 6010007);
    }

    private static void cellsAreForty() {
        SpannedCells t = new SpannedCells();
        for (int k = 0; k < 40; k++) {
            if (k % 10 == 0) {
                t.row();
            }
            DUE.is("cell " + k, plain(t, 1, 1), k);
        }
        DUE.is("cell 40", plain(t, 1, 1), NONE);
        DUE.is("cell 40 in a new row", t.row() + 10 * plain(t, 1, 1), 4 - 10);
        DUE.is("columns after it", t.columns(), 10);
        DUE.is("no cell 40", t.span(40), NONE);
        DUE.is("but a cell 39", t.span(39), 1010309);
    }

    private static void cellKeepsToTwelveColumns() {
        SpannedCells t = rowsBegun(1);
        plain(t, 6, 2);
        DUE.is("thirteen columns are too many", plain(t, 6, 2) + plain(t, 1, 1), 1 + NONE);
        DUE.is("twelve columns", t.columns(), 12);
        t.row();
        DUE.is("every slot of the row is taken", plain(t, 1, 1), NONE);
        t.row();
        plain(t, 6, 1);
        plain(t, 5, 1);
        DUE.is("two columns where one is left", plain(t, 2, 1), NONE);
        DUE.is("one column where one is left", plain(t, 1, 1), 4);
        DUE.is("it is the last one", t.span(4), 1010211);
    }

    private static void cellKeepsToTwelveRows() {
        SpannedCells t = rowsBegun(7);
        DUE.is("rows 6 to 11", plain(t, 1, 6), 0);
        t.row();
        DUE.is("rows 7 to 12", plain(t, 1, 6), NONE);
        DUE.is("rows 7 to 11", plain(t, 1, 5), 1);
        SpannedCells last = rowsBegun(12);
        DUE.is("rows 11 and 12", plain(last, 1, 2), NONE);
        DUE.is("growing in row 11", plain(last, 1, 0), 0);
        DUE.is("it takes row 11", last.span(0), 1011100);
    }

    private static void cellGoesToTheFirstFreeSlot() {
        SpannedCells t = rowsBegun(1);
        plain(t, 1, 2);
        plain(t, 1, 1);
        plain(t, 2, 2);
        plain(t, 1, 1);
        t.row();
        plain(t, 1, 1);
        plain(t, 1, 1);
        DUE.is("over the first taken column", t.span(4), 1010101);
        DUE.is("over the next two taken ones", t.span(5), 1010104);
        DUE.is("no overlaps", t.overlaps(), 0);
    }

    private static void cellLooksOnlyBehindTheCellBefore() {
        SpannedCells t = rowsBegun(1);
        plain(t, 1, 1);
        plain(t, 1, 2);
        plain(t, 1, 1);
        t.row();
        plain(t, 2, 1);
        plain(t, 1, 1);
        DUE.is("only its left slot must be free", t.span(3), 1020100);
        DUE.is("from where the one before ended", t.span(4), 1010102);
        DUE.is("the slot is the first one's", t.slot(1, 1), 1);
        DUE.is("both take it", t.overlaps(), 1);
    }

    private static void growingCellTakesLaterRows() {
        SpannedCells t = rowsBegun(1);
        plain(t, 2, 0);
        DUE.is("its own row", t.span(0), 1020000);
        t.row();
        DUE.is("the next row", t.span(0), 2020000);
        plain(t, 1, 3);
        DUE.is("a cell goes beside it", t.span(1), 3010102);
        DUE.is("all rows that cells take", t.span(0), 4020000);
        DUE.is("asking changes no row's number", t.row(), 2);
        plain(t, 1, 1);
        DUE.is("beside both", t.span(2), 1010203);
        for (int y = 3; y < 12; y++) {
            t.row();
        }
        DUE.is("as many rows as there are", t.span(0), 12020000);
    }

    private static void growingCellEndsWithItsGroup() {
        SpannedCells t = rowsBegun(1);
        plain(t, 1, 0);
        plain(t, 1, 3);
        t.group();
        t.row();
        plain(t, 1, 1);
        DUE.is("all rows of its group", t.span(0), 3010000);
        DUE.is("column 0 is free again", t.span(2), 1010300);
        DUE.is("no overlaps", t.overlaps(), 0);
    }

    private static void growingCellsMayBeginLate() {
        SpannedCells t = rowsBegun(2);
        plain(t, 1, 0);
        t.row();
        plain(t, 1, 0);
        t.row();
        plain(t, 1, 1);
        DUE.is("from row 1 on", t.span(0), 3010100);
        DUE.is("from row 2 on", t.span(1), 2010201);
        DUE.is("beside both", t.span(2), 1010302);
        DUE.is("nothing above", t.slot(0, 0), NONE);
    }

    private static void clearEmptiesTheTable() {
        SpannedCells t = rowsBegun(1);
        t.group();
        t.group();
        t.row();
        plain(t, 3, 3);
        plain(t, 1, 0);
        DUE.is("two cells were there", t.clear(), 2);
        askEmpty("cleared", t);
        DUE.is("none are left", t.clear(), 0);
        DUE.is("one group is left", t.group(), 2);
        DUE.is("rows begin at 0", t.row(), 0);
        DUE.is("cells begin at 0", plain(t, 1, 1), 0);
        DUE.is("columns begin at 0", t.span(0), 1010000);
    }

    private static void clearBeginsTheRowsAgain() {
        SpannedCells t = rowsBegun(3);
        t.group();
        t.row();
        t.clear();
        DUE.is("row 0 of the one group", t.row(), 0);
        plain(t, 1, 0);
        t.row();
        DUE.is("a growing cell of it", t.span(0), 2010000);
    }

    private static void clearKeepsTheLayout() {
        SpannedCells t = new SpannedCells();
        t.layout(50, 5, true);
        t.clear();
        t.row();
        t.cell(1, 1, 10, 10, 0);
        t.row();
        t.cell(2, 1, 30, 30, 0);
        DUE.is("still the fixed way", t.wide(0, 2), 10);
        DUE.is("still the space and the gap", t.wide(1, 2), 25);
        DUE.is("the whole space", t.size(false), 50);
    }

    private static void clearTakesBordersAway() {
        SpannedCells t = rowsBegun(1);
        plain(t, 1, 1);
        plain(t, 1, 1);
        t.border(1, 9, 3);
        t.clear();
        t.row();
        plain(t, 1, 1);
        plain(t, 1, 1);
        DUE.is("a new cell has no border", t.edge(0, 0, false), 0);
    }

    private static void columnsAndRowsAreCounted() {
        SpannedCells t = rowsBegun(1);
        DUE.is("a row without cells has no columns", t.columns(), 0);
        DUE.is("but is a row", t.rows(), 1);
        plain(t, 2, 1);
        plain(t, 3, 2);
        DUE.is("columns of row 0", t.columns(), 5);
        DUE.is("rows of its cells", t.rows(), 2);
        t.row();
        plain(t, 1, 1);
        DUE.is("a shorter row", t.columns(), 5);
        t.row();
        t.group();
        t.row();
        plain(t, 6, 4);
        DUE.is("a longer row", t.columns(), 6);
        DUE.is("rows of both groups", t.rows(), 7);
    }

    private static void slotsOutsideHaveNoCell() {
        SpannedCells t = rowsBegun(1);
        plain(t, 2, 2);
        DUE.is("top left", t.slot(0, 0), 0);
        DUE.is("bottom right", t.slot(1, 1), 0);
        DUE.is("left of it", t.slot(-1, 0), NONE);
        DUE.is("above it", t.slot(0, -1), NONE);
        DUE.is("right of it", t.slot(2, 0), NONE);
        DUE.is("below it", t.slot(0, 2), NONE);
        DUE.is("far out", t.slot(Integer.MAX_VALUE, Integer.MAX_VALUE), NONE);
        DUE.is("far out on the other side", t.slot(Integer.MIN_VALUE, Integer.MIN_VALUE), NONE);
        t.row();
        t.row();
        DUE.is("a free slot", t.slot(0, 2), NONE);
    }

    private static void overlapsCountEveryCellButOne() {
        SpannedCells t = rowsBegun(1);
        plain(t, 1, 1);
        plain(t, 1, 1);
        plain(t, 1, 3);
        t.row();
        plain(t, 1, 1);
        plain(t, 2, 2);
        DUE.is("two slots with two cells each", t.overlaps(), 2);
        t.row();
        plain(t, 3, 1);
        DUE.is("one with three, one with two more", t.overlaps(), 2 + 2);
        DUE.is("the first cell by number", t.slot(2, 2), 2);
        DUE.is("the second cell by number", t.slot(1, 2), 4);
    }

    private static void emptiesCountWhereNoCellBegins() {
        SpannedCells t = rowsBegun(1);
        DUE.is("a row without cells", t.empties(), 100);
        plain(t, 3, 4);
        DUE.is("two columns, three rows", t.empties(), 302);
        t.row();
        t.row();
        plain(t, 1, 1);
        DUE.is("another column, another row", t.empties(), 202);
    }

    private static void spanRefusesOtherNumbers() {
        SpannedCells t = rowsBegun(2);
        plain(t, 2, 3);
        plain(t, 4, 1);
        DUE.is("the first", t.span(0), 3020100);
        DUE.is("the second", t.span(1), 1040102);
        DUE.is("none", t.span(2), NONE);
        DUE.is("less than none", t.span(-1), NONE);
        DUE.is("far out", t.span(Integer.MAX_VALUE), NONE);
        DUE.is("far out on the other side", t.span(Integer.MIN_VALUE), NONE);
    }
}
