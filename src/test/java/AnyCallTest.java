/**
 * Rules 7 and 13 of LANGUAGE.md: no call throws, for any arguments in any state, and the same calls always
 * give the same answers. What an object answers after its 512th call is free, but it may not throw then either.
 */
public final class AnyCallTest {
    private static final int RUNS = 300;
    private static final int CALLS = 2000;
    private static final int METHODS = 17;
    private static final int PROMISED_CALLS = 512;
    private static final int[] ODD = {
        Integer.MIN_VALUE, Integer.MIN_VALUE + 1, -1001, -12, -2, -1, 0, 7, 8, 11, 12, 13, 39, 40, 41,
        1000, 1001, 10000, 10001, 65536, Integer.MAX_VALUE - 1, Integer.MAX_VALUE,
    };
    private static final Due DUE = new Due("AnyCallTest");

    private int state;

    private AnyCallTest(int number) {
        state = number * 104729 + 5;
    }

    public static void main(String[] args) {
        for (int number = 0; number < RUNS; number++) {
            new AnyCallTest(number).run("run " + number);
        }
        DUE.end();
    }

    /** Two objects get the same calls, and a third one between them gets others. */
    private void run(String name) {
        SpannedCells one = new SpannedCells();
        SpannedCells twin = new SpannedCells();
        SpannedCells stranger = new SpannedCells();
        for (int i = 0; i < CALLS; i++) {
            int[] call = nextCall();
            int[] other = nextCall();
            long answer = answer(name, one, call);
            answer(name, stranger, other);
            long again = answer(name, twin, call);
            if (i < PROMISED_CALLS) {
                DUE.is(name + ", call " + i + ": the twin's answer", again, answer);
            }
        }
    }

    private int pick(int n) {
        state = state * 1103515245 + 12345;
        return (state >>> 8) % n;
    }

    private int argument() {
        return pick(6) == 0 ? ODD[pick(ODD.length)] : pick(7);
    }

    /** The method, and five arguments, of which it takes as many as it has; clear is rare, so that tables fill. */
    private int[] nextCall() {
        int method = pick(METHODS);
        if (method == 5 && pick(20) > 0) {
            method = 2;
        }
        return new int[] {method, argument(), argument(), argument(), argument(), argument()};
    }

    private static long answer(String name, SpannedCells table, int[] call) {
        try {
            return call[0] < 6 ? change(table, call) : ask(table, call);
        } catch (RuntimeException e) {
            DUE.holds(name + ", method " + call[0] + " threw " + e, false);
            return 0;
        }
    }

    private static long change(SpannedCells table, int[] c) {
        switch (c[0]) {
            case 0:
                return table.group();
            case 1:
                return table.row();
            case 2:
                return table.cell(c[1], c[2], c[3], c[4], c[5]);
            case 3:
                return table.border(c[1], c[2], c[3]) ? 1 : 0;
            case 4:
                return table.layout(c[1], c[2], c[3] % 2 == 0) ? 1 : 0;
            default:
                return table.clear();
        }
    }

    private static long ask(SpannedCells table, int[] c) {
        switch (c[0]) {
            case 6:
                return table.columns();
            case 7:
                return table.rows();
            case 8:
                return table.slot(c[1], c[2]);
            case 9:
                return table.overlaps();
            case 10:
                return table.empties();
            case 11:
                return table.span(c[1]);
            case 12:
                return table.wide(c[1], c[2]);
            case 13:
                return table.high(c[1]);
            case 14:
                return table.place(c[1], c[2]);
            case 15:
                return table.size(c[1] % 2 == 0);
            default:
                return table.edge(c[1], c[2], c[3] % 2 == 0);
        }
    }
}
