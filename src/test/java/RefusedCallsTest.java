import java.util.ArrayList;
import java.util.List;
import java.util.function.ToLongFunction;

/**
 * "A call that is refused changes nothing": for every reason to refuse there is, a table with the refused
 * call answers every question, then and after further calls, as its twin without that call.
 */
public final class RefusedCallsTest {
    private static final int NONE = SpannedCells.NONE;
    private static final int MIN = Integer.MIN_VALUE;
    private static final int MAX = Integer.MAX_VALUE;
    private static final Due DUE = new Due("RefusedCallsTest");

    private final String state;
    private final List<ToLongFunction<SpannedCells>> before = new ArrayList<>();
    private final List<ToLongFunction<SpannedCells>> after = new ArrayList<>();
    private final List<ToLongFunction<SpannedCells>> refused = new ArrayList<>();
    private final List<String> reasons = new ArrayList<>();
    private final List<Integer> refusals = new ArrayList<>();

    private RefusedCallsTest(String state) {
        this.state = state;
        goOn(t -> t.row());
        goOn(t -> t.cell(2, 0, 7, 9, 31));
        goOn(t -> t.cell(1, 1, 5, 50, 3));
        goOn(t -> t.row());
        goOn(t -> t.cell(3, 2, 40, 80, 60));
        goOn(t -> t.group());
        goOn(t -> t.row());
        goOn(t -> t.cell(1, 1, 1, 2, 3));
    }

    public static void main(String[] args) {
        DUE.by("A call that is refused changes nothing");
        newTable();
        tableOfTwoGroups();
        fixedTable();
        growingGroup();
        groupJustBegun();
        eightGroups();
        twelveRowsBegun();
        twelveRowsTaken();
        twelveColumns();
        twoColumnsLeft();
        fortyCells();
        clearedTable();
        DUE.end();
    }

    private RefusedCallsTest build(ToLongFunction<SpannedCells> call) {
        before.add(call);
        return this;
    }

    private void goOn(ToLongFunction<SpannedCells> call) {
        after.add(call);
    }

    private RefusedCallsTest refuse(String reason, ToLongFunction<SpannedCells> call) {
        reasons.add(reason);
        refused.add(call);
        refusals.add(NONE);
        return this;
    }

    private RefusedCallsTest refuseCell(String reason, int columns, int rows, int least, int most, int need) {
        return refuse("cell, " + reason, t -> t.cell(columns, rows, least, most, need));
    }

    private RefusedCallsTest refuseBorder(String reason, int k, int thickness, int rank) {
        refuse("border, " + reason, t -> t.border(k, thickness, rank) ? 1 : 0);
        refusals.set(refusals.size() - 1, 0);
        return this;
    }

    private RefusedCallsTest refuseLayout(String reason, int space, int gap, boolean fixed) {
        refuse("layout, " + reason, t -> t.layout(space, gap, fixed) ? 1 : 0);
        refusals.set(refusals.size() - 1, 0);
        return this;
    }

    private void check() {
        for (int i = 0; i < refused.size(); i++) {
            checkTwins(state + ", " + reasons.get(i), refused.get(i), refusals.get(i));
        }
    }

    private void checkTwins(String when, ToLongFunction<SpannedCells> call, int refusal) {
        Replay plain = new Replay();
        Replay tried = new Replay();
        for (ToLongFunction<SpannedCells> step : before) {
            plain.change(step);
            tried.change(step);
        }
        DUE.is(when, tried.change(call), refusal);
        DUE.holds(when + ": all is as before", plain.everyAnswer().equals(tried.everyAnswer()));
        for (int i = 0; i < after.size(); i++) {
            DUE.is(when + ": then call " + i, tried.change(after.get(i)), plain.change(after.get(i)));
        }
        DUE.holds(when + ": all goes on as without it", plain.everyAnswer().equals(tried.everyAnswer()));
    }

    private static void newTable() {
        RefusedCallsTest test = new RefusedCallsTest("new table");
        test.refuseCell("no row", 1, 1, 0, 0, 0);
        test.refuseBorder("no cell", 0, 1, 1);
        test.refuseLayout("space -1", -1, 5, true);
        test.refuseLayout("gap 21", 50, 21, true);
        test.check();
    }

    /** Cells 0 to 3, with borders and a layout, so that a wrong change of any of them would be seen. */
    private RefusedCallsTest twoGroups(boolean fixed) {
        return build(t -> t.row())
            .build(t -> t.cell(1, 2, 10, 30, 5))
            .build(t -> t.cell(2, 1, 50, 60, 7))
            .build(t -> t.group())
            .build(t -> t.row())
            .build(t -> t.cell(1, 1, 12, 20, 3))
            .build(t -> t.cell(1, 0, 4, 8, 9))
            .build(t -> t.border(1, 3, 2) ? 1 : 0)
            .build(t -> t.border(2, 2, 3) ? 1 : 0)
            .build(t -> t.layout(200, 3, fixed) ? 1 : 0);
    }

    private static void tableOfTwoGroups() {
        RefusedCallsTest test = new RefusedCallsTest("two groups").twoGroups(false);
        test.wrongCells();
        test.wrongBorders();
        test.wrongLayouts(true);
        test.check();
    }

    private static void fixedTable() {
        RefusedCallsTest test = new RefusedCallsTest("fixed").twoGroups(true);
        test.wrongLayouts(false);
        test.check();
    }

    private void wrongCells() {
        for (int wrong : new int[] {0, -1, 7, MIN, MAX}) {
            refuseCell("columns " + wrong, wrong, 1, 1, 2, 3);
        }
        for (int wrong : new int[] {-1, 7, MIN, MAX}) {
            refuseCell("rows " + wrong, 1, wrong, 1, 2, 3);
        }
        for (int wrong : new int[] {-1, 3, 1001, MIN, MAX}) {
            refuseCell("least " + wrong, 1, 1, wrong, 2, 3);
        }
        for (int wrong : new int[] {0, -1, 1001, MIN, MAX}) {
            refuseCell("most " + wrong, 1, 1, 1, wrong, 3);
        }
        for (int wrong : new int[] {-1, 1001, MIN, MAX}) {
            refuseCell("need " + wrong, 1, 1, 1, 2, wrong);
        }
        refuseCell("least and most 1001", 1, 1, 1001, 1001, 3);
        refuseCell("least and most -1", 1, 1, -1, -1, 3);
        refuseCell("wrong in all", 0, -1, 5, 4, -1);
    }

    private void wrongBorders() {
        for (int wrong : new int[] {4, -1, 40, MIN, MAX}) {
            refuseBorder("cell " + wrong, wrong, 9, 3);
        }
        for (int wrong : new int[] {-1, 10, MIN, MAX}) {
            refuseBorder("thickness " + wrong, 0, wrong, 4);
        }
        for (int wrong : new int[] {-1, 5, MIN, MAX}) {
            refuseBorder("rank " + wrong, 0, 9, wrong);
        }
    }

    private void wrongLayouts(boolean fixed) {
        for (int wrong : new int[] {-1, 10001, MIN, MAX}) {
            refuseLayout("space " + wrong, wrong, 7, fixed);
        }
        for (int wrong : new int[] {-1, 21, MIN, MAX}) {
            refuseLayout("gap " + wrong, 70, wrong, fixed);
        }
    }

    private static void growingGroup() {
        RefusedCallsTest test = new RefusedCallsTest("a growing cell");
        for (int y = 0; y < 8; y++) {
            test.build(t -> t.row());
        }
        test.build(t -> t.cell(2, 0, 1, 2, 90));
        test.refuseCell("rows 7 to 12", 1, 6, 1, 2, 3);
        test.refuseCell("rows -1", 1, -1, 1, 2, 3);
        test.check();
    }

    private static void groupJustBegun() {
        RefusedCallsTest test = new RefusedCallsTest("group just begun")
            .build(t -> t.row())
            .build(t -> t.cell(1, 0, 1, 2, 3))
            .build(t -> t.group());
        test.refuseCell("the latest row is of another group", 1, 1, 0, 0, 0);
        test.refuseCell("a growing one, too", 1, 0, 0, 0, 0);
        test.check();
    }

    private static void eightGroups() {
        RefusedCallsTest test = new RefusedCallsTest("eight groups");
        for (int n = 2; n <= 8; n++) {
            test.build(t -> t.group());
        }
        test.build(t -> t.row());
        test.build(t -> t.cell(2, 0, 1, 2, 3));
        test.build(t -> t.cell(1, 3, 1, 2, 3));
        test.refuse("group 9", t -> t.group());
        test.check();
    }

    private static void twelveRowsBegun() {
        RefusedCallsTest test = new RefusedCallsTest("twelve rows begun");
        for (int y = 0; y < 12; y++) {
            test.build(t -> t.row());
        }
        test.build(t -> t.cell(2, 1, 1, 2, 3));
        test.refuse("row 12", t -> t.row());
        test.refuseCell("rows 11 and 12", 1, 2, 1, 2, 3);
        test.refuseCell("rows 11 to 16", 1, 6, 1, 2, 3);
        test.goOn(t -> t.cell(1, 1, 1, 2, 3));
        test.goOn(t -> t.cell(1, 0, 1, 2, 3));
        test.check();
    }

    private static void twelveRowsTaken() {
        RefusedCallsTest test = new RefusedCallsTest("twelve rows taken")
            .build(t -> t.row())
            .build(t -> t.cell(1, 6, 1, 2, 3))
            .build(t -> t.cell(1, 0, 1, 2, 3))
            .build(t -> t.group())
            .build(t -> t.row())
            .build(t -> t.cell(1, 6, 1, 2, 3))
            .build(t -> t.group());
        test.refuse("row 12", t -> t.row());
        test.refuseCell("no row of the latest group", 1, 1, 1, 2, 3);
        test.check();
    }

    private static void twelveColumns() {
        RefusedCallsTest test = new RefusedCallsTest("twelve columns")
            .build(t -> t.row())
            .build(t -> t.cell(6, 1, 1, 2, 3))
            .build(t -> t.cell(6, 2, 1, 2, 3));
        test.refuseCell("columns 12", 1, 1, 1, 2, 3);
        test.refuseCell("columns 12 to 17", 6, 6, 1, 2, 3);
        test.check();
    }

    private static void twoColumnsLeft() {
        RefusedCallsTest test = new RefusedCallsTest("two columns left")
            .build(t -> t.row())
            .build(t -> t.cell(6, 1, 1, 2, 3))
            .build(t -> t.cell(4, 1, 1, 2, 3));
        test.refuseCell("columns 10 to 12", 3, 1, 1, 2, 3);
        test.refuseCell("columns 10 to 12, and more rows", 3, 5, 1, 2, 3);
        test.after.add(0, t -> t.cell(2, 1, 1, 2, 3));
        test.check();
    }

    private static void fortyCells() {
        RefusedCallsTest test = new RefusedCallsTest("forty cells");
        for (int k = 0; k < 40; k++) {
            if (k % 8 == 0) {
                test.build(t -> t.row());
            }
            test.build(t -> t.cell(1, 1, 1, 2, 3));
        }
        test.refuseCell("cell 40", 1, 1, 1, 2, 3);
        test.refuseCell("cell 40, wider and higher", 4, 6, 1, 2, 3);
        test.refuseCell("cell 40, growing", 1, 0, 1, 2, 3);
        test.refuseBorder("cell 40", 40, 9, 3);
        test.after.add(t -> t.clear());
        test.check();
    }

    private static void clearedTable() {
        RefusedCallsTest test = new RefusedCallsTest("cleared").twoGroups(false).build(t -> t.clear());
        test.refuseCell("no row", 1, 1, 0, 0, 0);
        test.refuseBorder("no cell any more", 0, 9, 3);
        test.wrongLayouts(true);
        test.check();
    }
}
