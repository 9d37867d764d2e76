/** The boundary cases of promises 1 to 4 and 7 to 13 and of the terms they use, sentence by sentence. */
public final class StructureEdgesTest {
    private static final int NONE = SpannedCells.NONE;
    private static final int[] FAR = {-1, Integer.MIN_VALUE, Integer.MAX_VALUE};
    private static final Due DUE = new Due("StructureEdgesTest");

    public static void main(String[] args) {
        emptyTable();
        oneGroupAtFirst();
        groupsAreAtMostEight();
        emptyGroupsHaveNoRows();
        rowsAreNumberedToEleven();
        rowElevenMayBeginAGroup();
        rowTwelveIsRefusedBehindTakenRows();
        cellNeedsALatestRow();
        cellNeedsARowOfTheLatestGroup();
        cellsAreAtMostForty();
        columnsOfACellAreOneToSix();
        rowsOfACellAreZeroToSix();
        leastIsNotMoreThanMost();
        needIsUpToThousand();
        tableOfTwelveColumns();
        leftColumnIsPushedPastTwelve();
        tableOfTwelveRows();
        clearAnswersHowManyCells();
        clearLiftsEveryLimit();
        clearKeepsSpaceGapAndWay();
        columnsReachAsFarAsTakenSlots();
        rowsAreBegunOrTaken();
        firstCellSearchesFromColumnZero();
        onlyTheLeftSlotMustBeFree();
        slotsOfTheCorners();
        slotOutsideTheTable();
        firstByNumberHasTheSlot();
        overlapsOfManyCells();
        overlapsOfGrowingCells();
        noEmpties();
        nothingButEmpties();
        emptiesOfSpannedLines();
        spanAtTheCorners();
        spanWithoutACell();
        growingCellAlone();
        growingCellAtTheEndOfItsGroup();
        growingCellInALongGroup();
        growingCellTakesARowBeforeItsCells();
        askingEndsNoGroup();
        DUE.end();
    }

    private static int plain(SpannedCells t, int columns, int rows) {
        return t.cell(columns, rows, 0, 0, 0);
    }

    private static SpannedCells rowsBegun(int rows) {
        SpannedCells t = new SpannedCells();
        for (int y = 0; y < rows; y++) {
            t.row();
        }
        return t;
    }

    private static void askSlots(String when, SpannedCells t, int y, int... due) {
        for (int x = 0; x < due.length; x++) {
            DUE.is(when + ": slot(" + x + ", " + y + ")", t.slot(x, y), due[x]);
        }
    }

    private static void emptyTable() {
        DUE.by("1: An empty table");
        SpannedCells t = new SpannedCells();
        t.layout(1000, 20, true);
        DUE.is("columns", t.columns(), 0);
        DUE.is("rows", t.rows(), 0);
        DUE.is("overlaps", t.overlaps(), 0);
        DUE.is("empties", t.empties(), 0);
        DUE.is("width, though there is a gap", t.size(false), 0);
        DUE.is("height, though there is a gap", t.size(true), 0);
        DUE.is("clear", t.clear(), 0);
        for (int i : new int[] {0, 1, 11, 12, 39, 40, -1, Integer.MIN_VALUE, Integer.MAX_VALUE}) {
            DUE.is("slot " + i, t.slot(i, i), NONE);
            DUE.is("span " + i, t.span(i), NONE);
            DUE.is("high " + i, t.high(i), NONE);
            DUE.is("edge " + i, t.edge(i, i, false), NONE);
            DUE.is("edge down " + i, t.edge(i, i, true), NONE);
            DUE.fails("border " + i, t.border(i, 1, 1));
            for (int what = -1; what <= 4; what++) {
                DUE.is("wide " + i + ", " + what, t.wide(i, what), NONE);
                DUE.is("place " + i + ", " + what, t.place(i, what), NONE);
            }
        }
    }

    private static void oneGroupAtFirst() {
        DUE.by("1: one group without rows");
        SpannedCells t = new SpannedCells();
        DUE.is("a row of the group that is there", t.row(), 0);
        DUE.is("a cell in it", plain(t, 1, 1), 0);
        DUE.is("the next group is the second", t.group(), 2);
        DUE.is("without rows there is none for a cell", plain(new SpannedCells(), 1, 1), NONE);
    }

    private static void groupsAreAtMostEight() {
        DUE.by("2: NONE when there are 8");
        SpannedCells t = new SpannedCells();
        for (int n = 1; n <= 8; n++) {
            DUE.is("row of group " + n, t.row(), n - 1);
            DUE.is("cell of group " + n, plain(t, 1, 0), n - 1);
            DUE.is("group behind " + n, t.group(), n == 8 ? NONE : n + 1);
        }
        DUE.is("once more", t.group(), NONE);
        DUE.is("group 8 goes on", plain(t, 1, 1), 8);
        DUE.is("and has more rows", t.row(), 8);
        DUE.is("its growing cell takes them", t.span(7), 2010700);
        DUE.is("those of other groups do not", t.span(6), 1010600);
    }

    private static void emptyGroupsHaveNoRows() {
        DUE.by("terms: A group begins at the first row behind all rows of the groups before (row 0 at first)");
        SpannedCells t = new SpannedCells();
        t.group();
        t.group();
        DUE.is("no rows before", t.rows(), 0);
        DUE.is("row 0 at first", t.row(), 0);
        plain(t, 1, 5);
        t.row();
        t.group();
        t.group();
        DUE.is("behind the rows that a cell takes", t.row(), 5);
        t.row();
        t.row();
        t.group();
        DUE.is("behind the rows begun", t.row(), 8);
        DUE.is("nine rows", t.rows(), 9);
    }

    private static void rowsAreNumberedToEleven() {
        DUE.by("3: NONE when it would be number 12 or more");
        SpannedCells t = new SpannedCells();
        for (int y = 0; y <= 11; y++) {
            DUE.is("row", t.row(), y);
        }
        DUE.is("row 12", t.row(), NONE);
        DUE.is("row 12 again", t.row(), NONE);
        DUE.is("twelve rows", t.rows(), 12);
        DUE.is("a group behind them", t.group(), 2);
        DUE.is("row 12 of that", t.row(), NONE);
        DUE.is("the row before is of another group", plain(t, 1, 1), NONE);
    }

    private static void rowElevenMayBeginAGroup() {
        DUE.by("3: NONE when it would be number 12 or more");
        SpannedCells t = rowsBegun(11);
        t.group();
        DUE.is("the last row", t.row(), 11);
        DUE.is("one cell in it", plain(t, 1, 1), 0);
        DUE.is("and no row more", t.row(), NONE);
        DUE.is("its cell", t.span(0), 1011100);
    }

    private static void rowTwelveIsRefusedBehindTakenRows() {
        DUE.by("3: NONE when it would be number 12 or more");
        SpannedCells t = rowsBegun(7);
        plain(t, 1, 6);
        DUE.is("rows 6 to 11 are taken", t.rows(), 12);
        DUE.is("but row 7 can begin", t.row(), 7);
        t.group();
        DUE.is("the next group would begin at 12", t.row(), NONE);
        DUE.is("its rows are none", t.rows(), 12);
    }

    private static void cellNeedsALatestRow() {
        DUE.by("4: NONE when there is none such");
        SpannedCells t = new SpannedCells();
        DUE.is("no row at all", plain(t, 1, 1), NONE);
        DUE.is("nor for a growing one", plain(t, 1, 0), NONE);
        t.row();
        t.clear();
        DUE.is("no row after clear", plain(t, 1, 1), NONE);
        DUE.is("no columns came of it", t.columns(), 0);
    }

    private static void cellNeedsARowOfTheLatestGroup() {
        DUE.by("4: the latest row, which must be of the latest group");
        SpannedCells t = rowsBegun(1);
        plain(t, 1, 4);
        t.group();
        DUE.is("the latest row is of the first group", plain(t, 1, 1), NONE);
        t.group();
        DUE.is("and a group without rows between", plain(t, 1, 1), NONE);
        t.row();
        DUE.is("now there is one", plain(t, 1, 1), 1);
        DUE.is("behind the rows taken", t.span(1), 1010400);
    }

    private static void cellsAreAtMostForty() {
        DUE.by("4: NONE when there are 40 cells");
        SpannedCells t = new SpannedCells();
        for (int k = 0; k < 40; k++) {
            if (k % 5 == 0) {
                t.group();
                t.row();
            }
            DUE.is("cell", plain(t, 1, 1), k);
        }
        DUE.is("cell 40 in the same row", plain(t, 1, 1), NONE);
        DUE.is("a row", t.row(), 8);
        DUE.is("cell 40 in a new row", plain(t, 1, 1), NONE);
        DUE.is("cell 40, growing", plain(t, 1, 0), NONE);
        DUE.is("the last one", t.span(39), 1010704);
        DUE.is("there is no cell 40", t.span(40), NONE);
        DUE.is("forty were there", t.clear(), 40);
    }

    private static void columnsOfACellAreOneToSix() {
        DUE.by("4: columns are not 1 .. 6");
        for (int columns = -1; columns <= 8; columns++) {
            SpannedCells t = rowsBegun(1);
            boolean right = 1 <= columns && columns <= 6;
            DUE.is(columns + " columns", plain(t, columns, 1), right ? 0 : NONE);
            DUE.is(columns + " columns, then", t.columns(), right ? columns : 0);
        }
        for (int far : FAR) {
            DUE.is("columns far out", plain(rowsBegun(1), far, 1), NONE);
        }
    }

    private static void rowsOfACellAreZeroToSix() {
        DUE.by("4: rows are not 1 .. 6 (rows may be 0)");
        for (int rows = -1; rows <= 8; rows++) {
            SpannedCells t = rowsBegun(1);
            boolean right = 0 <= rows && rows <= 6;
            DUE.is(rows + " rows", plain(t, 1, rows), right ? 0 : NONE);
            DUE.is(rows + " rows, then", t.rows(), right ? Math.max(1, rows) : 1);
        }
        for (int far : FAR) {
            DUE.is("rows far out", plain(rowsBegun(1), 1, far), NONE);
        }
    }

    private static void leastIsNotMoreThanMost() {
        DUE.by("4: 0 <= least <= most <= 1000");
        int[] tried = {Integer.MIN_VALUE, -1001, -1, 0, 1, 2, 500, 999, 1000, 1001, Integer.MAX_VALUE};
        for (int least : tried) {
            for (int most : tried) {
                SpannedCells t = rowsBegun(1);
                boolean right = 0 <= least && least <= most && most <= 1000;
                String when = "least " + least + ", most " + most;
                DUE.is(when, t.cell(1, 1, least, most, 0), right ? 0 : NONE);
                DUE.is(when + ": wide 0", t.wide(0, 0), right ? least : NONE);
                DUE.is(when + ": wide 1", t.wide(0, 1), right ? most : NONE);
            }
        }
    }

    private static void needIsUpToThousand() {
        DUE.by("4: NEED of height (0 .. 1000)");
        for (int need : new int[] {Integer.MIN_VALUE, -1, 0, 1, 999, 1000, 1001, Integer.MAX_VALUE}) {
            SpannedCells t = rowsBegun(1);
            boolean right = 0 <= need && need <= 1000;
            DUE.is("need " + need, t.cell(1, 1, 0, 0, need), right ? 0 : NONE);
            DUE.is("need " + need + ": high", t.high(0), right ? need : 0);
        }
    }

    private static void tableOfTwelveColumns() {
        DUE.by("4: the table would have more than 12 columns");
        for (int columns = 1; columns <= 6; columns++) {
            SpannedCells t = rowsBegun(1);
            plain(t, 6, 1);
            plain(t, 3, 1);
            DUE.is(columns + " behind nine", plain(t, columns, 1), columns <= 3 ? 2 : NONE);
            DUE.is(columns + " behind nine, then", t.columns(), columns <= 3 ? 9 + columns : 9);
        }
        SpannedCells full = rowsBegun(1);
        plain(full, 6, 1);
        plain(full, 6, 1);
        DUE.is("behind twelve", plain(full, 1, 1), NONE);
        full.row();
        DUE.is("the next row begins at 0 again", plain(full, 6, 1), 2);
        DUE.is("its first cell", full.span(2), 1060100);
    }

    private static void leftColumnIsPushedPastTwelve() {
        DUE.by("4: the table would have more than 12 columns");
        SpannedCells t = rowsBegun(1);
        plain(t, 6, 2);
        plain(t, 2, 2);
        t.row();
        DUE.is("columns 8 to 12", plain(t, 5, 1), NONE);
        DUE.is("columns 8 to 11", plain(t, 4, 1), 2);
        DUE.is("it is pushed to column 8", t.span(2), 1040108);
        SpannedCells taken = rowsBegun(1);
        plain(taken, 6, 3);
        plain(taken, 6, 0);
        taken.row();
        DUE.is("every slot of the row is taken", plain(taken, 1, 1), NONE);
        taken.group();
        taken.row();
        DUE.is("but not of the next group", plain(taken, 1, 1), 2);
    }

    private static void tableOfTwelveRows() {
        DUE.by("4: the table would have more than 12 rows");
        for (int y = 0; y < 12; y++) {
            for (int rows = 0; rows <= 6; rows++) {
                SpannedCells t = rowsBegun(y + 1);
                boolean right = y + rows <= 12;
                String when = rows + " rows from row " + y;
                DUE.is(when, plain(t, 1, rows), right ? 0 : NONE);
                DUE.is(when + ": rows", t.rows(), right ? y + Math.max(1, rows) : y + 1);
            }
        }
        SpannedCells groups = rowsBegun(1);
        plain(groups, 1, 6);
        groups.group();
        groups.row();
        groups.row();
        DUE.is("rows 7 to 12 in another group", plain(groups, 1, 6), NONE);
        DUE.is("rows 7 to 11", plain(groups, 1, 5), 1);
        DUE.is("twelve rows", groups.rows(), 12);
    }

    private static void clearAnswersHowManyCells() {
        DUE.by("7: Answers how many cells there were");
        SpannedCells t = new SpannedCells();
        DUE.is("none at first", t.clear(), 0);
        t.row();
        DUE.is("none in a row", t.clear(), 0);
        t.row();
        plain(t, 1, 1);
        plain(t, 7, 1);
        DUE.is("a refused one does not count", t.clear(), 1);
        DUE.is("none are left", t.clear(), 0);
    }

    private static void clearLiftsEveryLimit() {
        DUE.by("7: The table is empty, as at first");
        SpannedCells t = new SpannedCells();
        for (int n = 0; n < 2; n++) {
            for (int k = 0; k < 36; k++) {
                if (k % 12 == 0) {
                    DUE.is("row", t.row(), k / 12);
                }
                DUE.is("cell", plain(t, 1, 1), k);
            }
            for (int g = 2; g <= 8; g++) {
                DUE.is("group", t.group(), g);
            }
            for (int y = 3; y < 12; y++) {
                DUE.is("row", t.row(), y);
            }
            for (int k = 36; k < 40; k++) {
                DUE.is("cell", plain(t, 1, 1), k);
            }
            DUE.is("no cell more", plain(t, 1, 1), NONE);
            DUE.is("no row more", t.row(), NONE);
            DUE.is("no group more", t.group(), NONE);
            DUE.is("all cells", t.clear(), 40);
            DUE.is("no columns", t.columns(), 0);
            DUE.is("no rows", t.rows(), 0);
        }
    }

    private static void clearKeepsSpaceGapAndWay() {
        DUE.by("7: space, gap and way stay");
        SpannedCells t = rowsBegun(1);
        t.layout(101, 4, true);
        t.cell(1, 1, 9, 9, 9);
        t.clear();
        t.row();
        t.cell(1, 1, 30, 40, 5);
        DUE.is("the way", t.wide(0, 2), 30);
        DUE.is("the gap", t.place(0, 0), 4);
        t.row();
        t.cell(2, 1, 80, 80, 5);
        DUE.is("the space", t.wide(1, 2), 101 - 3 * 4 - 30);
    }

    private static void columnsReachAsFarAsTakenSlots() {
        DUE.by("8: as many as the slots that are taken reach");
        SpannedCells t = rowsBegun(1);
        DUE.is("no slot is taken", t.columns(), 0);
        plain(t, 1, 0);
        DUE.is("one column", t.columns(), 1);
        plain(t, 6, 3);
        DUE.is("a cell reaches to column 6", t.columns(), 7);
        t.row();
        plain(t, 2, 1);
        DUE.is("pushed right of both", t.columns(), 9);
        t.group();
        t.row();
        plain(t, 2, 1);
        DUE.is("a short group", t.columns(), 9);
        plain(t, 6, 1);
        plain(t, 5, 1);
        DUE.is("refused at column 12", t.columns(), 9);
        plain(t, 4, 1);
        DUE.is("up to column 11", t.columns(), 12);
    }

    private static void rowsAreBegunOrTaken() {
        DUE.by("9: A group's rows are all that were begun in it, or that cells of it take");
        SpannedCells t = new SpannedCells();
        DUE.is("none", t.rows(), 0);
        t.row();
        DUE.is("one begun", t.rows(), 1);
        plain(t, 1, 3);
        DUE.is("three taken", t.rows(), 3);
        t.row();
        t.row();
        DUE.is("three begun", t.rows(), 3);
        t.row();
        DUE.is("four begun", t.rows(), 4);
        plain(t, 1, 0);
        DUE.is("a growing cell takes no row more", t.rows(), 4);
        plain(t, 1, 2);
        DUE.is("five taken", t.rows(), 5);
        t.group();
        DUE.is("a group without rows", t.rows(), 5);
        t.row();
        DUE.is("six of two groups", t.rows(), 6);
    }

    private static void firstCellSearchesFromColumnZero() {
        DUE.by("terms: from where the cell before it in this row ended (0 for the first one)");
        SpannedCells t = rowsBegun(1);
        plain(t, 1, 1);
        plain(t, 1, 2);
        plain(t, 1, 1);
        plain(t, 1, 2);
        t.row();
        plain(t, 1, 1);
        plain(t, 1, 1);
        plain(t, 1, 1);
        DUE.is("column 0 is free", t.span(4), 1010100);
        DUE.is("column 1 is taken", t.span(5), 1010102);
        DUE.is("column 3 is taken", t.span(6), 1010104);
    }

    private static void onlyTheLeftSlotMustBeFree() {
        DUE.by("terms: whose slot in this row no cell takes yet");
        SpannedCells t = rowsBegun(1);
        plain(t, 1, 1);
        plain(t, 1, 2);
        plain(t, 1, 1);
        plain(t, 1, 2);
        t.row();
        plain(t, 6, 1);
        plain(t, 1, 1);
        DUE.is("over taken slots", t.span(4), 1060100);
        DUE.is("behind it", t.span(5), 1010106);
        DUE.is("two slots are taken twice", t.overlaps(), 2);
    }

    private static SpannedCells corners() {
        SpannedCells t = rowsBegun(1);
        plain(t, 6, 1);
        plain(t, 5, 1);
        plain(t, 1, 1);
        for (int y = 1; y < 12; y++) {
            t.row();
        }
        plain(t, 1, 1);
        plain(t, 6, 1);
        plain(t, 4, 1);
        plain(t, 1, 1);
        return t;
    }

    private static void slotsOfTheCorners() {
        DUE.by("10: SLOTS are at a column x and a row y, both from 0");
        SpannedCells t = corners();
        DUE.is("top left", t.slot(0, 0), 0);
        DUE.is("top right", t.slot(11, 0), 2);
        DUE.is("bottom left", t.slot(0, 11), 3);
        DUE.is("bottom right", t.slot(11, 11), 6);
        DUE.is("a free slot at the left", t.slot(0, 1), NONE);
        DUE.is("a free slot at the right", t.slot(11, 10), NONE);
    }

    private static void slotOutsideTheTable() {
        DUE.by("10: NONE when there is no such slot");
        SpannedCells t = corners();
        for (int at : new int[] {-1, 12, 13, 100, Integer.MIN_VALUE, Integer.MAX_VALUE}) {
            DUE.is("column " + at, t.slot(at, 0), NONE);
            DUE.is("column " + at + " of the last row", t.slot(at, 11), NONE);
            DUE.is("row " + at, t.slot(0, at), NONE);
            DUE.is("row " + at + " of the last column", t.slot(11, at), NONE);
            DUE.is("column and row " + at, t.slot(at, at), NONE);
        }
    }

    /** Cells 2, 4 and 5 all take rows 2 to 5 of column 2, and 4 and 5 those of column 1. */
    private static SpannedCells threefold() {
        SpannedCells t = rowsBegun(1);
        plain(t, 1, 1);
        plain(t, 1, 1);
        plain(t, 1, 6);
        t.row();
        plain(t, 1, 1);
        plain(t, 2, 5);
        t.row();
        plain(t, 3, 4);
        return t;
    }

    private static void firstByNumberHasTheSlot() {
        DUE.by("10: The first of the cells that take a slot, by number, is the slot's cell");
        SpannedCells t = threefold();
        askSlots("row 0", t, 0, 0, 1, 2);
        askSlots("row 1", t, 1, 3, 4, 2);
        askSlots("row 2", t, 2, 5, 4, 2);
        askSlots("row 5", t, 5, 5, 4, 2);
    }

    private static void overlapsOfManyCells() {
        DUE.by("11: for each slot, how many cells take it less one (none for a free slot)");
        SpannedCells t = threefold();
        DUE.is("1 by two cells, 4 by three, 4 by two", t.overlaps(), 1 + 8 + 4);
        t.row();
        DUE.is("a row makes none", t.overlaps(), 13);
        SpannedCells free = rowsBegun(3);
        DUE.is("no columns", free.overlaps(), 0);
        plain(free, 1, 1);
        DUE.is("free slots count none", free.overlaps(), 0);
    }

    private static void overlapsOfGrowingCells() {
        DUE.by("11: when the group ends it takes all rows of the group");
        SpannedCells t = rowsBegun(1);
        plain(t, 1, 1);
        plain(t, 1, 4);
        t.row();
        plain(t, 2, 0);
        DUE.is("in rows 1 to 3, of which two have not begun", t.overlaps(), 3);
        DUE.is("the slot is still the first one's", t.slot(1, 3), 1);
        DUE.is("beside it", t.slot(0, 3), 2);
        t.row();
        DUE.is("a row that it takes anyway", t.overlaps(), 3);
        t.group();
        DUE.is("the group has ended", t.overlaps(), 3);
    }

    private static void noEmpties() {
        DUE.by("12: one in which no cell begins");
        SpannedCells t = rowsBegun(1);
        plain(t, 1, 2);
        plain(t, 1, 1);
        t.row();
        plain(t, 2, 1);
        plain(t, 1, 1);
        DUE.is("column 2 is only reached, column 3 begun", t.empties(), 1);
        t.row();
        plain(t, 1, 1);
        plain(t, 1, 1);
        plain(t, 1, 1);
        DUE.is("a cell begins in each", t.empties(), 0);
    }

    private static void nothingButEmpties() {
        DUE.by("12: How many columns are empty, added 100 times how many rows are");
        SpannedCells t = new SpannedCells();
        for (int y = 0; y < 12; y++) {
            DUE.is(y + " rows without cells", t.empties(), 100 * y);
            t.row();
        }
        DUE.is("12 rows without cells", t.empties(), 1200);
        plain(t, 1, 1);
        DUE.is("one cell", t.empties(), 1100);
    }

    private static void emptiesOfSpannedLines() {
        DUE.by("12: (has its left column, or its first row)");
        SpannedCells t = rowsBegun(1);
        plain(t, 6, 6);
        plain(t, 6, 0);
        DUE.is("of two cells", t.empties(), 510);
        t.row();
        DUE.is("a row begun without cells", t.empties(), 510);
        t.group();
        t.row();
        plain(t, 1, 1);
        plain(t, 1, 1);
        DUE.is("a row of the next group", t.empties(), 509);
    }

    private static void spanAtTheCorners() {
        DUE.by("13: left column, 100 times first row, 10000 times columns, 1000000 times rows");
        SpannedCells t = corners();
        DUE.is("the first", t.span(0), 1060000);
        DUE.is("top right", t.span(2), 1010011);
        DUE.is("bottom left", t.span(3), 1011100);
        DUE.is("bottom right", t.span(6), 1011111);
        SpannedCells long12 = rowsBegun(1);
        plain(long12, 6, 0);
        for (int y = 1; y < 12; y++) {
            long12.row();
        }
        DUE.is("twelve rows", long12.span(0), 12060000);
    }

    private static void spanWithoutACell() {
        DUE.by("13: NONE when there is none");
        SpannedCells t = rowsBegun(1);
        plain(t, 1, 1);
        plain(t, 1, 1);
        plain(t, 0, 1);
        DUE.is("the last one", t.span(1), 1010001);
        DUE.is("behind it", t.span(2), NONE);
        for (int far : FAR) {
            DUE.is("cell " + far, t.span(far), NONE);
        }
        t.clear();
        DUE.is("after clear", t.span(0), NONE);
    }

    private static void growingCellAlone() {
        DUE.by("terms: A growing cell takes this row");
        SpannedCells t = rowsBegun(12);
        plain(t, 1, 0);
        DUE.is("the last row there can be", t.span(0), 1011100);
        SpannedCells alone = rowsBegun(1);
        plain(alone, 3, 0);
        alone.group();
        DUE.is("a group of one row", alone.span(0), 1030000);
        alone.row();
        DUE.is("no row of the next group", alone.span(0), 1030000);
        DUE.is("whose cells begin at column 0", plain(alone, 1, 1) + alone.span(1), 1 + 1010100);
    }

    private static void growingCellAtTheEndOfItsGroup() {
        DUE.by("terms: when the group ends it takes all rows of the group");
        SpannedCells t = rowsBegun(1);
        plain(t, 1, 0);
        plain(t, 1, 6);
        t.group();
        DUE.is("rows that were never begun", t.span(0), 6010000);
        DUE.is("their slots", t.slot(0, 5), 0);
        t.row();
        plain(t, 1, 6);
        DUE.is("not those of the next group", t.span(0), 6010000);
        DUE.is("a free slot below", t.slot(1, 6), NONE);
    }

    private static void growingCellInALongGroup() {
        DUE.by("terms: when the group ends it takes all rows of the group");
        SpannedCells t = rowsBegun(1);
        plain(t, 1, 6);
        t.row();
        plain(t, 1, 0);
        DUE.is("put when the rows are taken already", t.span(1), 5010101);
        t.row();
        DUE.is("nothing above it", t.slot(1, 0), NONE);
        DUE.is("a taken row begins", t.span(1), 5010101);
        for (int y = 3; y < 7; y++) {
            t.row();
        }
        DUE.is("a row behind the taken ones begins", t.span(1), 6010101);
    }

    private static void growingCellTakesARowBeforeItsCells() {
        DUE.by("terms: when a later row of its group begins, that row, too, before the cells of that");
        SpannedCells t = rowsBegun(1);
        plain(t, 1, 1);
        plain(t, 2, 0);
        t.row();
        plain(t, 1, 1);
        plain(t, 1, 1);
        DUE.is("left of it", t.span(2), 1010100);
        DUE.is("right of it", t.span(3), 1010103);
        t.row();
        plain(t, 4, 1);
        DUE.is("over it", t.span(4), 1040200);
        DUE.is("two slots are taken twice", t.overlaps(), 2);
        DUE.is("its slot", t.slot(2, 2), 1);
    }

    /** Each kind of question once, so that one that ends the group would be found out. */
    private static void askEachKind(SpannedCells t) {
        t.columns();
        t.rows();
        t.slot(0, 0);
        t.overlaps();
        t.empties();
        t.span(0);
        t.wide(0, 0);
        t.wide(0, 1);
        t.wide(0, 2);
        t.high(0);
        t.place(0, 0);
        t.place(0, 3);
        t.size(false);
        t.size(true);
        t.edge(0, 0, false);
        t.edge(0, 0, true);
    }

    private static void askingEndsNoGroup() {
        DUE.by("terms: the last one counts as ended whenever something is asked");
        SpannedCells t = new SpannedCells();
        for (int y = 0; y < 10; y++) {
            askEachKind(t);
            DUE.is("the rows follow one another", t.row(), y);
            askEachKind(t);
            DUE.is("the row is still of the latest group", plain(t, 1, y == 0 ? 0 : y % 4), y);
        }
        DUE.is("the first cell has grown through all rows", t.span(0), 10010000);
        DUE.is("the group is still the first one", t.group(), 2);
        DUE.is("beside cell 2, which takes row 3, too", t.span(3), 3010302);
        DUE.is("where cell 2 has ended, and growing", t.span(4), 6010401);
        DUE.is("where cell 3 has ended", t.span(6), 2010602);
        DUE.is("beside cells 0, 4, 8 and 7", t.span(9), 1010904);
    }
}
