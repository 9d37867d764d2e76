/** The boundary cases of promises 6 and 14 to 17 and of the terms they use, sentence by sentence. */
public final class MeasureEdgesTest {
    private static final int NONE = SpannedCells.NONE;
    private static final int[] FAR = {-1, Integer.MIN_VALUE, Integer.MAX_VALUE};
    private static final Due DUE = new Due("MeasureEdgesTest");

    public static void main(String[] args) {
        spaceIsUpToTenThousand();
        gapIsUpToTwenty();
        spaceGapAndWayAtFirst();
        shareOfNothing();
        sharesAreRoundedDown();
        leftoversGoToTheFirst();
        leftoversGoToPlacesWithoutWeight();
        weightsThatSumToNothing();
        measuresAtFirst();
        widthOfOneColumnIsTheGreater();
        widthEqualToTheSum();
        widthEqualToTheSumWithGaps();
        gapsWiderThanTheCell();
        mostIsSharedByMostBeforeTheCell();
        mostReachesLeast();
        sixColumnsComeLast();
        greatestCells();
        roomIsNoLessThanNothing();
        roomEqualToTheLeast();
        roomEqualToTheMost();
        leastAndMostAlike();
        roomOverColumnsWithoutMost();
        greatestRoom();
        fixedLeastEqualToItsGaps();
        fixedRoomEqualToTheWidthsGiven();
        fixedRoomIsNoLessThanNothing();
        fixedCountsFirstRowZero();
        fixedTableWithAllColumnsGiven();
        fixedTableOfTwelveColumns();
        wideOutsideTheTable();
        wideOfAnyOtherWhat();
        heightsAtFirst();
        heightOfOneRowIsTheGreater();
        needEqualToTheSum();
        needEqualToTheSumWithGaps();
        twelveRowsComeLast();
        greatestNeedOverTwelveRows();
        highOutsideTheTable();
        placeOfTheFirstAndTheLast();
        placeWithoutACell();
        placeOfAnotherWhat();
        sizeWithoutColumns();
        sizeOfTheGreatestTable();
        sizeBeyondTheSpace();
        DUE.end();
    }

    /** Asks the least (0), the most (1) or the chosen widths (2) of all columns. */
    private static void askWidths(String when, SpannedCells t, int what, int... due) {
        DUE.is(when + ": columns", t.columns(), due.length);
        for (int x = 0; x < due.length; x++) {
            DUE.is(when + ": wide(" + x + ", " + what + ")", t.wide(x, what), due[x]);
        }
    }

    private static void askHeights(String when, SpannedCells t, int... due) {
        DUE.is(when + ": rows", t.rows(), due.length);
        for (int y = 0; y < due.length; y++) {
            DUE.is(when + ": high(" + y + ")", t.high(y), due[y]);
        }
    }

    /** One row of cells of one column, with these least and most widths in turn. */
    private static SpannedCells oneRow(int... leastAndMost) {
        SpannedCells t = new SpannedCells();
        t.row();
        for (int i = 0; i < leastAndMost.length; i += 2) {
            t.cell(1, 1, leastAndMost[i], leastAndMost[i + 1], 0);
        }
        return t;
    }

    /** As many rows as needs, each with one cell of one row, beside a cell of all rows. */
    private static SpannedCells besideTall(int tallNeed, int... needs) {
        SpannedCells t = new SpannedCells();
        t.row();
        t.cell(1, needs.length, 0, 0, tallNeed);
        t.cell(1, 1, 0, 0, needs[0]);
        for (int y = 1; y < needs.length; y++) {
            t.row();
            t.cell(1, 1, 0, 0, needs[y]);
        }
        return t;
    }

    private static void spaceIsUpToTenThousand() {
        DUE.by("6: false when space is not as it must be");
        for (int space : new int[] {Integer.MIN_VALUE, -1, 0, 1, 9999, 10000, 10001, Integer.MAX_VALUE}) {
            SpannedCells t = oneRow(0, 0);
            boolean right = 0 <= space && space <= 10000;
            DUE.is("space " + space, t.layout(space, 0, false) ? 1 : 0, right ? 1 : 0);
            DUE.is("space " + space + ": then", t.wide(0, 2), right ? space : 0);
        }
    }

    private static void gapIsUpToTwenty() {
        DUE.by("6: false when gap is not as it must be");
        for (int gap : new int[] {Integer.MIN_VALUE, -1, 0, 1, 19, 20, 21, Integer.MAX_VALUE}) {
            SpannedCells t = oneRow(0, 0);
            boolean right = 0 <= gap && gap <= 20;
            DUE.is("gap " + gap, t.layout(0, gap, false) ? 1 : 0, right ? 1 : 0);
            DUE.is("gap " + gap + ": then", t.place(0, 0), right ? gap : 0);
        }
        SpannedCells t = oneRow(0, 0);
        DUE.fails("both wrong", t.layout(-1, -1, true));
        DUE.holds("the last one counts", t.layout(10, 2, true) && t.layout(11, 3, false));
        DUE.is("its space and gap", t.wide(0, 2), 5);
    }

    private static void spaceGapAndWayAtFirst() {
        DUE.by("6: at first 0 and 0; FIXED (not so at first)");
        SpannedCells t = oneRow(4, 6);
        t.row();
        t.cell(2, 1, 9, 9, 8);
        DUE.is("not fixed: cells of row 1 count", t.wide(0, 2), 9);
        DUE.is("no gap", t.place(1, 0) + t.place(1, 1), 0);
        DUE.is("no space: the least widths", t.size(false), 9);
    }

    private static void shareOfNothing() {
        DUE.by("terms: SHARING OUT n: nothing");
        SpannedCells t = oneRow(3, 5, 4, 7);
        t.layout(7, 0, false);
        askWidths("room less the least is 0", t, 2, 3, 4);
        SpannedCells fixed = new SpannedCells();
        fixed.row();
        fixed.cell(3, 1, 0, 9, 0);
        fixed.layout(50, 0, true);
        askWidths("a least width of 0", fixed, 2, 0, 0, 0);
    }

    private static void sharesAreRoundedDown() {
        DUE.by("terms: SHARING OUT: rounded down");
        SpannedCells t = oneRow(0, 10, 0, 30);
        t.row();
        t.cell(2, 1, 20, 20, 0);
        askWidths("5 and 15, nothing is left", t, 0, 5, 15);
        SpannedCells uneven = oneRow(0, 10, 0, 29);
        uneven.row();
        uneven.cell(2, 1, 20, 20, 0);
        // 200 / 39 is 5, 580 / 39 is 14, and one is left
        askWidths("one is left", uneven, 0, 6, 14);
    }

    private static void leftoversGoToTheFirst() {
        DUE.by("terms: SHARING OUT: to the places from the first one on, one each, as long as there is some");
        int[][] due = {
            {0, 0, 0, 0, 0, 0}, {1, 0, 0, 0, 0, 0}, {1, 1, 0, 0, 0, 0}, {1, 1, 1, 1, 1, 0},
            {1, 1, 1, 1, 1, 1}, {2, 1, 1, 1, 1, 1},
        };
        int[] shared = {0, 1, 2, 5, 6, 7};
        for (int i = 0; i < shared.length; i++) {
            SpannedCells t = new SpannedCells();
            t.row();
            t.cell(6, 1, shared[i], shared[i], 0);
            askWidths(shared[i] + " over six, least", t, 0, due[i]);
            askWidths(shared[i] + " over six, most", t, 1, due[i]);
        }
    }

    private static void leftoversGoToPlacesWithoutWeight() {
        DUE.by("terms: SHARING OUT: what is left is given to the places from the first one on");
        SpannedCells t = oneRow(0, 0, 0, 3, 0, 3);
        t.row();
        t.cell(3, 1, 5, 5, 0);
        // 5 by 0, 3, 3: 0, 2, 2, and one more for the first, which has no weight
        askWidths("least", t, 0, 1, 2, 2);
        SpannedCells behind = oneRow(0, 3, 0, 3, 0, 0);
        behind.row();
        behind.cell(3, 1, 5, 5, 0);
        askWidths("the last one has no weight", behind, 0, 3, 2, 0);
    }

    private static void weightsThatSumToNothing() {
        DUE.by("terms: SHARING OUT: all weights count 1 if their sum is 0");
        SpannedCells t = oneRow(0, 0, 0, 0);
        t.row();
        t.cell(2, 1, 3, 8, 0);
        askWidths("least", t, 0, 2, 1);
        askWidths("most", t, 1, 4, 4);
        SpannedCells some = oneRow(0, 0, 0, 1);
        some.row();
        some.cell(2, 1, 3, 8, 0);
        askWidths("a sum of 1, least", some, 0, 0, 3);
        askWidths("a sum of 1, most", some, 1, 0, 8);
        askHeights("heights", besideTall(7, 0, 0), 4, 3);
    }

    private static void measuresAtFirst() {
        DUE.by("terms: the least and the most width of a column are at first 0");
        SpannedCells t = new SpannedCells();
        t.row();
        t.cell(6, 1, 0, 0, 0);
        askWidths("least", t, 0, 0, 0, 0, 0, 0, 0);
        askWidths("most", t, 1, 0, 0, 0, 0, 0, 0);
        askWidths("width", t, 2, 0, 0, 0, 0, 0, 0);
    }

    private static void widthOfOneColumnIsTheGreater() {
        DUE.by("terms: of a cell of 1 column they become the greater of themselves and the cell's");
        SpannedCells t = oneRow(5, 8);
        t.row();
        t.cell(1, 1, 5, 8, 0);
        askWidths("alike, least", t, 0, 5);
        t.row();
        t.cell(1, 1, 6, 7, 0);
        askWidths("a greater least", t, 0, 6);
        askWidths("a smaller most", t, 1, 8);
        t.row();
        t.cell(1, 1, 0, 9, 0);
        askWidths("a smaller least", t, 0, 6);
        askWidths("a greater most", t, 1, 9);
    }

    private static SpannedCells pairBelow(int least, int most) {
        SpannedCells t = oneRow(4, 6, 1, 2);
        t.row();
        t.cell(2, 1, least, most, 0);
        return t;
    }

    private static void widthEqualToTheSum() {
        DUE.by("terms: when its least width is greater than the sum");
        askWidths("less, least", pairBelow(4, 7), 0, 4, 1);
        askWidths("equal, least", pairBelow(5, 8), 0, 4, 1);
        askWidths("equal, most", pairBelow(5, 8), 1, 6, 2);
        askWidths("one more, least", pairBelow(6, 8), 0, 5, 1);
        askWidths("one more, most", pairBelow(5, 9), 1, 7, 2);
        askWidths("only the most, least", pairBelow(5, 9), 0, 4, 1);
        askWidths("only the least, most", pairBelow(6, 8), 1, 6, 2);
    }

    private static void widthEqualToTheSumWithGaps() {
        DUE.by("terms: the sum of their least widths with the gaps between them");
        SpannedCells t = pairBelow(25, 28);
        t.layout(0, 20, false);
        askWidths("equal, least", t, 0, 4, 1);
        askWidths("equal, most", t, 1, 6, 2);
        t.layout(0, 19, false);
        askWidths("one more, least", t, 0, 5, 1);
        askWidths("one more, most", t, 1, 7, 2);
        SpannedCells six = new SpannedCells();
        six.row();
        six.cell(6, 1, 100, 101, 0);
        six.layout(0, 20, false);
        askWidths("five gaps of 20, least", six, 0, 0, 0, 0, 0, 0, 0);
        askWidths("five gaps of 20, most", six, 1, 1, 0, 0, 0, 0, 0);
    }

    private static void gapsWiderThanTheCell() {
        DUE.by("terms: the sum of their least widths with the gaps between them");
        SpannedCells t = new SpannedCells();
        t.row();
        t.cell(6, 1, 3, 99, 0);
        t.layout(0, 20, false);
        askWidths("least", t, 0, 0, 0, 0, 0, 0, 0);
        askWidths("most", t, 1, 0, 0, 0, 0, 0, 0);
    }

    private static void mostIsSharedByMostBeforeTheCell() {
        DUE.by("terms: over their most widths, by their most widths (before that cell)");
        SpannedCells t = oneRow(0, 1, 0, 3);
        t.row();
        t.cell(2, 1, 20, 24, 0);
        // 20 by 1 and 3: 5 and 15; 20 more of most by 1 and 3 again, not by 5 and 15
        askWidths("least", t, 0, 5, 15);
        askWidths("most", t, 1, 6, 18);
        SpannedCells later = oneRow(0, 0, 0, 1, 0, 2);
        later.row();
        later.cell(3, 1, 7, 7, 0);
        // 7 by 0, 1, 2: 0, 2, 4 and one more; 4 more of most by 0, 1, 2: 0, 1, 2 and one more
        askWidths("by 0, 1, 2, least", later, 0, 1, 2, 4);
        askWidths("by 0, 1, 2, most", later, 1, 1, 2, 4);
    }

    private static void mostReachesLeast() {
        DUE.by("terms: then each column's most width becomes at least its least width");
        SpannedCells t = oneRow(9, 9, 0, 9);
        t.row();
        t.cell(2, 1, 13, 13, 0);
        // 4 by 9 and 9: 2 each, which is beyond the first one's most width
        askWidths("least", t, 0, 11, 2);
        askWidths("most", t, 1, 11, 9);
    }

    private static void sixColumnsComeLast() {
        DUE.by("terms: by the cells of 1 column, then those of 2, and so on to 6, each by number");
        SpannedCells t = new SpannedCells();
        t.row();
        t.cell(6, 1, 60, 60, 0);
        t.row();
        t.cell(5, 1, 50, 50, 0);
        askWidths("10 each of five, then 2 more each", t, 0, 12, 12, 12, 12, 12, 0);
    }

    private static void greatestCells() {
        DUE.by("terms: 0 <= least <= most <= 1000");
        SpannedCells t = new SpannedCells();
        t.row();
        t.cell(6, 1, 1000, 1000, 0);
        t.cell(6, 1, 0, 1000, 0);
        askWidths("least", t, 0, 167, 167, 167, 167, 166, 166, 0, 0, 0, 0, 0, 0);
        askWidths("most", t, 1, 167, 167, 167, 167, 166, 166, 167, 167, 167, 167, 166, 166);
        t.row();
        t.cell(1, 1, 1000, 1000, 0);
        // column 0 has 1000 already, so the wide cell asks for no more
        askWidths("one column is as wide", t, 0, 1000, 0, 0, 0, 0, 0, 0, 0, 0, 0, 0, 0);
    }

    private static void roomIsNoLessThanNothing() {
        DUE.by("terms: what is left of the space, or 0 if that is less, is the ROOM");
        SpannedCells t = oneRow(0, 10);
        for (int space : new int[] {0, 1, 39, 40}) {
            t.layout(space, 20, false);
            askWidths("space " + space, t, 2, 0);
            DUE.is("the gaps alone", t.size(false), 40);
        }
        t.layout(41, 20, false);
        askWidths("one more than the gaps", t, 2, 1);
        DUE.is("the whole space", t.size(false), 41);
    }

    private static void roomEqualToTheLeast() {
        DUE.by("terms: the least widths, if the room is not more than their sum");
        SpannedCells t = oneRow(10, 12, 5, 9);
        t.layout(14 + 9, 3, false);
        askWidths("one less", t, 2, 10, 5);
        t.layout(15 + 9, 3, false);
        askWidths("equal", t, 2, 10, 5);
        t.layout(16 + 9, 3, false);
        askWidths("one more", t, 2, 11, 5);
    }

    private static void roomEqualToTheMost() {
        DUE.by("terms: if it is not more than the sum of the most widths");
        SpannedCells t = oneRow(10, 12, 5, 9);
        t.layout(20 + 9, 3, false);
        // 5 by 2 and 4: 1 and 3, and one more for the first
        askWidths("one less", t, 2, 12, 8);
        t.layout(21 + 9, 3, false);
        askWidths("equal", t, 2, 12, 9);
        t.layout(22 + 9, 3, false);
        askWidths("one more", t, 2, 13, 9);
        t.layout(42 + 9, 3, false);
        askWidths("twice as much", t, 2, 24, 18);
    }

    private static void leastAndMostAlike() {
        DUE.by("terms: by how much the most widths are more: not at all");
        SpannedCells t = oneRow(10, 10, 5, 5);
        t.layout(14, 0, false);
        askWidths("one less", t, 2, 10, 5);
        t.layout(15, 0, false);
        askWidths("equal", t, 2, 10, 5);
        t.layout(18, 0, false);
        askWidths("more", t, 2, 12, 6);
        SpannedCells one = oneRow(10, 10, 5, 6);
        one.layout(16, 0, false);
        askWidths("only the second one has scope", one, 2, 10, 6);
    }

    private static void roomOverColumnsWithoutMost() {
        DUE.by("terms: by the most widths: all 0");
        SpannedCells t = oneRow(0, 0, 0, 0, 0, 0);
        t.layout(0, 0, false);
        askWidths("no room", t, 2, 0, 0, 0);
        t.layout(1, 0, false);
        askWidths("1", t, 2, 1, 0, 0);
        t.layout(5, 0, false);
        askWidths("5", t, 2, 2, 2, 1);
    }

    private static void greatestRoom() {
        DUE.by("terms: THE GAP is from 0 to 20, THE SPACE from 0 to 10000");
        SpannedCells t = new SpannedCells();
        t.row();
        for (int x = 0; x < 12; x++) {
            t.cell(1, 1, 0, 1000, 0);
        }
        t.layout(10000, 20, false);
        // 9740 over twelve: 811 each, and one more for the first eight
        askWidths("below the most", t, 2, 812, 812, 812, 812, 812, 812, 812, 812, 811, 811, 811, 811);
        DUE.is("the whole space", t.size(false), 10000);
        SpannedCells few = oneRow(0, 1000, 0, 1);
        few.layout(10000, 0, false);
        // 8999 by 1000 and 1: 8990 and 8, and one more for the first
        askWidths("above the most", few, 2, 9991, 9);
    }

    private static void fixedLeastEqualToItsGaps() {
        DUE.by("terms: its least width, less the gaps between its columns (at least 0)");
        SpannedCells t = new SpannedCells();
        t.row();
        t.cell(3, 1, 40, 40, 0);
        t.layout(500, 19, true);
        askWidths("two more than the gaps", t, 2, 1, 1, 0);
        t.layout(500, 20, true);
        askWidths("as much as the gaps", t, 2, 0, 0, 0);
        SpannedCells less = new SpannedCells();
        less.row();
        less.cell(3, 1, 39, 40, 0);
        less.cell(1, 1, 7, 7, 0);
        less.layout(500, 20, true);
        askWidths("less than the gaps", less, 2, 0, 0, 0, 7);
    }

    /** Row 0 gives columns 0 and 1 the widths 10 and 20; columns 2 and 3 have none. */
    private static SpannedCells halfGiven() {
        SpannedCells t = oneRow(10, 90, 20, 90);
        t.row();
        t.cell(4, 1, 500, 500, 0);
        return t;
    }

    private static void fixedRoomEqualToTheWidthsGiven() {
        DUE.by("terms: Columns that have none then share out the room less all widths given (at least 0)");
        SpannedCells t = halfGiven();
        t.layout(29 + 10, 2, true);
        askWidths("one less", t, 2, 10, 20, 0, 0);
        t.layout(30 + 10, 2, true);
        askWidths("equal", t, 2, 10, 20, 0, 0);
        t.layout(31 + 10, 2, true);
        askWidths("one more", t, 2, 10, 20, 1, 0);
        t.layout(32 + 10, 2, true);
        askWidths("two more", t, 2, 10, 20, 1, 1);
    }

    private static void fixedRoomIsNoLessThanNothing() {
        DUE.by("terms: what is left of the space, or 0 if that is less, is the ROOM");
        SpannedCells t = new SpannedCells();
        t.row();
        t.row();
        t.cell(1, 1, 8, 9, 0);
        t.layout(39, 20, true);
        askWidths("one less than the gaps", t, 2, 0);
        t.layout(40, 20, true);
        askWidths("the gaps", t, 2, 0);
        t.layout(41, 20, true);
        askWidths("one more than the gaps", t, 2, 1);
    }

    private static void fixedCountsFirstRowZero() {
        DUE.by("terms: only the cells whose first row is row 0 count");
        SpannedCells t = new SpannedCells();
        t.group();
        t.row();
        t.cell(1, 3, 6, 6, 0);
        t.cell(1, 0, 7, 7, 0);
        t.row();
        t.cell(1, 1, 8, 8, 0);
        t.layout(30, 0, true);
        askWidths("high and growing ones of row 0 count, row 1 does not", t, 2, 6, 7, 17);
        SpannedCells low = new SpannedCells();
        low.row();
        low.group();
        low.row();
        low.cell(2, 1, 100, 100, 0);
        low.layout(5, 0, true);
        askWidths("the first row of the second group is not row 0", low, 2, 3, 2);
    }

    private static void fixedTableWithAllColumnsGiven() {
        DUE.by("terms: Columns that have none: there are none");
        SpannedCells t = oneRow(10, 90, 20, 90);
        t.layout(10000, 0, true);
        askWidths("the room is not used up", t, 2, 10, 20);
        DUE.is("the width of the table", t.size(false), 30);
    }

    private static void fixedTableOfTwelveColumns() {
        DUE.by("terms: with equal weights");
        SpannedCells t = new SpannedCells();
        t.row();
        t.cell(6, 1, 1000, 1000, 0);
        t.row();
        t.cell(6, 1, 1, 1, 0);
        t.cell(6, 1, 1, 1, 0);
        t.layout(10000, 20, true);
        // 900 over six; then 9740 less 900 over the other six
        askWidths("the greatest", t, 2,
            150, 150, 150, 150, 150, 150, 1474, 1474, 1473, 1473, 1473, 1473);
    }

    private static void wideOutsideTheTable() {
        DUE.by("14: NONE when there is none");
        SpannedCells t = oneRow(1, 2, 3, 4);
        t.row();
        t.row();
        for (int what = -1; what <= 3; what++) {
            DUE.is("the last column", t.wide(1, what) == NONE ? 1 : 0, 0);
            DUE.is("behind it", t.wide(2, what), NONE);
            for (int far : FAR) {
                DUE.is("column " + far, t.wide(far, what), NONE);
            }
        }
        t.clear();
        DUE.is("after clear", t.wide(0, 0), NONE);
        t.row();
        DUE.is("a row without cells", t.wide(0, 2), NONE);
    }

    private static void wideOfAnyOtherWhat() {
        DUE.by("14: its width (any other what)");
        SpannedCells t = oneRow(1, 2);
        t.layout(50, 0, false);
        DUE.is("what 0", t.wide(0, 0), 1);
        DUE.is("what 1", t.wide(0, 1), 2);
        for (int what : new int[] {2, 3, 4, 100, -1, -2, Integer.MIN_VALUE, Integer.MAX_VALUE}) {
            DUE.is("what " + what, t.wide(0, what), 50);
        }
    }

    private static void heightsAtFirst() {
        DUE.by("terms: HEIGHTS OF ROWS: at first 0");
        SpannedCells t = new SpannedCells();
        t.row();
        t.row();
        askHeights("rows without cells", t, 0, 0);
        t.layout(100, 5, false);
        askHeights("a gap is no height", t, 0, 0);
        t.cell(1, 3, 5, 5, 0);
        askHeights("a cell without a need", t, 0, 0, 0, 0);
    }

    private static void heightOfOneRowIsTheGreater() {
        DUE.by("terms: the height becomes the greater of itself and the cell's need");
        SpannedCells t = new SpannedCells();
        t.row();
        t.cell(1, 1, 0, 0, 5);
        t.cell(1, 1, 0, 0, 5);
        askHeights("alike", t, 5);
        t.cell(1, 0, 0, 0, 6);
        askHeights("a growing cell of one row", t, 6);
        t.cell(1, 1, 0, 0, 0);
        askHeights("a smaller one", t, 6);
    }

    private static void needEqualToTheSum() {
        DUE.by("terms: when its need is greater than the sum of their heights");
        askHeights("one less", besideTall(11, 4, 8), 4, 8);
        askHeights("equal", besideTall(12, 4, 8), 4, 8);
        askHeights("one more", besideTall(13, 4, 8), 5, 8);
        askHeights("three more", besideTall(15, 4, 8), 5, 10);
    }

    private static void needEqualToTheSumWithGaps() {
        DUE.by("terms: the sum of their heights with the gaps between them");
        SpannedCells t = besideTall(53, 4, 8, 1);
        t.layout(0, 20, false);
        askHeights("equal", t, 4, 8, 1);
        t.layout(0, 19, false);
        // 2 by 4, 8, 1: 0, 1, 0, and one more for the first
        askHeights("two more", t, 5, 9, 1);
    }

    private static void twelveRowsComeLast() {
        DUE.by("terms: by the cells that take 1 row, then 2, and so on, each by number");
        SpannedCells t = new SpannedCells();
        t.row();
        t.cell(1, 0, 0, 0, 120);
        t.row();
        t.cell(1, 0, 0, 0, 110);
        for (int y = 2; y < 12; y++) {
            t.row();
        }
        // 10 each of rows 1 to 11; then 10 more, which are less than any share, for the first ten
        askHeights("eleven before twelve", t, 1, 11, 11, 11, 11, 11, 11, 11, 11, 11, 10, 10);
    }

    private static void greatestNeedOverTwelveRows() {
        DUE.by("terms: NEED of height (0 .. 1000), GAP from 0 to 20");
        for (int need : new int[] {0, 219, 220, 221, 1000}) {
            SpannedCells t = new SpannedCells();
            t.row();
            t.cell(1, 0, 0, 0, need);
            for (int y = 1; y < 12; y++) {
                t.row();
            }
            t.layout(0, 20, false);
            DUE.is("need " + need + ": first row", t.high(0), need == 1000 ? 65 : need == 221 ? 1 : 0);
            DUE.is("need " + need + ": last row", t.high(11), need == 1000 ? 65 : 0);
            DUE.is("need " + need + ": the cell", t.place(0, 3), Math.max(220, need));
        }
    }

    private static void highOutsideTheTable() {
        DUE.by("15: NONE when there is none");
        SpannedCells t = new SpannedCells();
        DUE.is("no rows", t.high(0), NONE);
        t.row();
        t.cell(1, 3, 0, 0, 9);
        DUE.is("the last row", t.high(2), 3);
        DUE.is("behind it", t.high(3), NONE);
        for (int far : FAR) {
            DUE.is("row " + far, t.high(far), NONE);
        }
        for (int y = 1; y < 12; y++) {
            t.row();
        }
        DUE.is("row 11", t.high(11), 0);
        DUE.is("row 12", t.high(12), NONE);
        t.clear();
        DUE.is("after clear", t.high(0), NONE);
    }

    /** Twelve columns of the width 10, and twelve rows, of which the first and the last have the height 7. */
    private static SpannedCells square() {
        SpannedCells t = new SpannedCells();
        t.row();
        for (int x = 0; x < 12; x++) {
            t.cell(1, 1, 10, 10, 7);
        }
        for (int y = 1; y < 12; y++) {
            t.row();
        }
        t.cell(6, 1, 0, 0, 7);
        t.cell(6, 1, 0, 0, 7);
        t.layout(0, 3, false);
        return t;
    }

    private static void placeOfTheFirstAndTheLast() {
        DUE.by("16: the widths of all columns before it with a gap before each and one more");
        SpannedCells t = square();
        DUE.is("the first from the left", t.place(0, 0), 3);
        DUE.is("the first from above", t.place(0, 1), 3);
        DUE.is("the last of row 0", t.place(11, 0), 11 * 13 + 3);
        DUE.is("in the last row", t.place(13, 1), 7 + 11 * 3 + 3);
        DUE.is("its first column", t.place(13, 0), 6 * 13 + 3);
        DUE.is("over six columns", t.place(13, 2), 6 * 10 + 5 * 3);
        DUE.is("one column", t.place(11, 2), 10);
        DUE.is("one row", t.place(13, 3), 7);
    }

    private static void placeWithoutACell() {
        DUE.by("16: NONE when there is none");
        SpannedCells t = square();
        for (int what = 0; what <= 3; what++) {
            DUE.is("the last one", t.place(13, what) == NONE ? 1 : 0, 0);
            DUE.is("behind it", t.place(14, what), NONE);
            for (int far : FAR) {
                DUE.is("cell " + far, t.place(far, what), NONE);
            }
        }
        t.clear();
        DUE.is("after clear", t.place(0, 0), NONE);
    }

    private static void placeOfAnotherWhat() {
        DUE.by("16: NONE when what is not 0 .. 3");
        SpannedCells t = square();
        for (int what : new int[] {-1, 4, 5, 100, Integer.MIN_VALUE, Integer.MAX_VALUE}) {
            DUE.is("what " + what, t.place(0, what), NONE);
            DUE.is("what " + what + ", and no cell", t.place(14, what), NONE);
        }
    }

    private static void sizeWithoutColumns() {
        DUE.by("17: 0 when it has no columns, or no rows");
        SpannedCells t = new SpannedCells();
        t.layout(500, 20, false);
        DUE.is("neither, width", t.size(false), 0);
        DUE.is("neither, height", t.size(true), 0);
        t.row();
        DUE.is("no columns, width", t.size(false), 0);
        DUE.is("no columns, height", t.size(true), 0);
        t.cell(7, 1, 0, 0, 0);
        DUE.is("after a refused cell", t.size(false) + t.size(true), 0);
        t.cell(1, 1, 0, 0, 0);
        DUE.is("both, width", t.size(false), 500);
        DUE.is("both, height", t.size(true), 40);
        t.clear();
        DUE.is("after clear", t.size(false) + t.size(true), 0);
    }

    private static void sizeOfTheGreatestTable() {
        DUE.by("17: with all gaps");
        SpannedCells t = new SpannedCells();
        t.row();
        for (int x = 0; x < 12; x++) {
            t.cell(1, 1, 1000, 1000, 1000);
        }
        for (int y = 1; y < 12; y++) {
            t.row();
            t.cell(1, 1, 1000, 1000, 1000);
        }
        t.layout(10000, 20, false);
        DUE.is("width", t.size(false), 12000 + 13 * 20);
        DUE.is("height", t.size(true), 12000 + 13 * 20);
        t.layout(10000, 0, true);
        DUE.is("width without gaps, fixed", t.size(false), 12000);
        DUE.is("height without gaps", t.size(true), 12000);
    }

    private static void sizeBeyondTheSpace() {
        DUE.by("17: How wide the table is");
        SpannedCells t = oneRow(10, 20, 30, 40);
        t.layout(45, 2, false);
        DUE.is("the least widths and gaps are more than the space", t.size(false), 46);
        t.layout(46, 2, false);
        DUE.is("just the space", t.size(false), 46);
        t.layout(47, 2, false);
        DUE.is("one more", t.size(false), 47);
    }
}
