import java.util.Random;

/** Promises 18 to 20: two lines, and which of them to let go by. */
public final class TwoLinesTest {
    public static void main(String[] args) {
        byHand();
        atOnce();
        limit();
        oneStop();
        againstModel();
        refusals();
        Due.end();
    }

    private static void both(WaitOrWalkOn x, int line, int other, long above, long below) {
        String call = "both " + line + " " + other;
        Due.isFraction(call, x.both(line, other, 0), x.both(line, other, 1), above, below);
    }

    private static void let(WaitOrWalkOn x, int line, int other, int minute, long above, long below) {
        String call = "let " + line + " " + other + " " + minute;
        Due.isFraction(call, x.letMean(line, other, minute, 0), x.letMean(line, other, minute, 1), above, below);
    }

    /** The first rides 1 minute and comes in 2 or 4, the second 9 and comes in 0 or 3; home is at the last stop. */
    private static void byHand() {
        WaitOrWalkOn x = Due.road("s900;h0;p20;lb1000101;lb901001;");
        // (2, 0): 9; (2, 3): 3; (4, 0): 9; (4, 3): 12.
        both(x, 0, 1, 33, 4);
        both(x, 1, 0, 33, 4);
        let(x, 0, 1, 0, 33, 4);
        // Let go by in 0: 3, 3, 5, 12.
        for (int minute = 1; minute <= 3; minute++) {
            let(x, 0, 1, minute, 23, 4);
        }
        // Let go by in 3, too: 3, 3, 5, 5.
        for (int minute = 4; minute <= 12; minute++) {
            let(x, 0, 1, minute, 4, 1);
        }
        Due.is("let go", x.letGo(0, 1), 4);
        Due.is("the better one is not let go by", x.letGo(1, 0), 0);
    }

    private static void atOnce() {
        WaitOrWalkOn x = Due.road("s900;h0;p20;lb9001;lb3001;");
        both(x, 0, 1, 4, 1);
        both(x, 1, 0, 4, 1);
        let(x, 0, 1, 1, 4, 1);
        let(x, 0, 1, 2, 10, 1);
        let(x, 1, 0, 2, 4, 1);
        Due.is("let go", x.letGo(0, 1), 0);
        Due.is("of several the first", x.letGo(1, 0), 0);
    }

    private static void limit() {
        WaitOrWalkOn x = Due.road("s900;h20;p20;m2;lb110001;lb110001;");
        // Both come in 3 or never, alike: 5, or walking from 2 on home in 48; that they come behind the limit is alike.
        both(x, 0, 1, 63, 4);
        // The second let go by: 5 or 48, alike.
        let(x, 0, 1, 12, 53, 2);
        Due.is("let go", x.letGo(0, 1), 0);
        Due.is("limit", x.set(3, 60), 2);
        both(x, 0, 1, 121, 4);
    }

    private static void oneStop() {
        WaitOrWalkOn x = Due.road("h100;p20;lb110001;le910009;");
        both(x, 0, 1, 5, 1);
        let(x, 0, 1, 12, 5, 1);
        Due.is("let go", x.letGo(0, 1), 0);
    }

    private static void againstModel() {
        Random lot = new Random(3);
        for (int i = 0; i < 300; i++) {
            Model m = Model.random(lot, 7, 2 + lot.nextInt(2), 9);
            WaitOrWalkOn x = m.object();
            int line = lot.nextInt(m.runs.length);
            int other = (line + 1) % m.runs.length;
            long below = (long) m.total(line) * m.total(other);
            int first = 0;
            for (int minute = 0; minute <= 12; minute++) {
                GoersTest.sameFraction(m + "let " + minute, x.letMean(line, other, minute, 0),
                    x.letMean(line, other, minute, 1), m.pairSum(line, other, minute), below);
                first = m.pairSum(line, other, minute) < m.pairSum(line, other, first) ? minute : first;
            }
            GoersTest.sameFraction(m + "both", x.both(line, other, 0), x.both(line, other, 1),
                m.pairSum(line, other, 0), below);
            Due.is(m + "let go", x.letGo(line, other), first);
        }
    }

    private static void refusals() {
        WaitOrWalkOn x = Due.road("s100;lb211;lb211;");
        int[][] none = {{0, 2}, {2, 0}, {-1, 0}, {0, -1}, {0, 0}, {1, 1}, {2, 2}};
        for (int[] pair : none) {
            Due.is("both", x.both(pair[0], pair[1], 2), Due.asLong(Due.NOBODY));
            Due.is("let go", x.letGo(pair[0], pair[1]), Due.NOBODY);
            Due.is("let mean", x.letMean(pair[0], pair[1], -1, 2), Due.asLong(Due.NOBODY));
        }
        Due.is("both part", x.both(0, 1, 2), Due.asLong(Due.OTHER));
        Due.is("both part", x.both(0, 1, -1), Due.asLong(Due.OTHER));
        Due.is("let below", x.letMean(0, 1, -1, 2), Due.asLong(Due.BELOW));
        Due.is("let above", x.letMean(0, 1, 13, 2), Due.asLong(Due.ROOM));
        Due.is("let part", x.letMean(0, 1, 12, 2), Due.asLong(Due.OTHER));
        int[] counted = {21, 3, 0, 1, 0, 1};
        for (int i = 0; i < counted.length; i++) {
            Due.is("refused -" + (i + 1), x.count(11 + i), counted[i]);
        }
    }
}
