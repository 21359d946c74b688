import java.math.BigInteger;
import java.util.Random;

/** Promises 9, 10, 12, 13, 25 and 28: when it comes, when each is home, means, rules, lots. */
public final class GoersTest {
    public static void main(String[] args) {
        comes();
        byHand();
        passedAndHalting();
        oneStop();
        rules();
        lots();
        againstModel();
        refusals();
        Due.end();
    }

    private static void comes() {
        WaitOrWalkOn x = Due.road("lb14402000000008;lb102;");
        Due.isFraction("comes 0", x.comes(0, 0, 0, 0), x.comes(0, 0, 0, 1), 2, 9);
        Due.isFraction("comes 2", x.comes(0, 2, 1, 0), x.comes(0, 2, 1, 1), 1, 7);
        Due.isFraction("comes 2 from itself", x.comes(0, 2, 2, 0), x.comes(0, 2, 2, 1), 1, 7);
        Due.isFraction("comes 2 too late", x.comes(0, 2, 3, 0), x.comes(0, 2, 3, 1), 0, 1);
        Due.isFraction("comes 1, no chance", x.comes(0, 1, 0, 0), x.comes(0, 1, 0, 1), 0, 1);
        Due.isFraction("comes 11", x.comes(0, 11, 11, 0), x.comes(0, 11, 11, 1), 2, 3);
        Due.isFraction("comes never", x.comes(0, 12, 0, 0), x.comes(0, 12, 0, 1), 2, 9);
        Due.isFraction("comes never", x.comes(0, 12, 11, 0), x.comes(0, 12, 11, 1), 1, 3);
        Due.isFraction("can not be", x.comes(1, 12, 1, 0), x.comes(1, 12, 1, 1), 0, 1);
        Due.isFraction("can not be", x.comes(1, 5, 1, 0), x.comes(1, 5, 1, 1), 0, 1);
        Due.isFraction("surely", x.comes(1, 0, 0, 0), x.comes(1, 0, 0, 1), 1, 1);
    }

    private static void home(WaitOrWalkOn x, int kind, int figure, int... due) {
        for (int t = 0; t <= 12; t++) {
            Due.is("kind " + kind + " figure " + figure + " t " + t, x.homeAt(0, kind, figure, t), due[t]);
        }
    }

    /** Stops at 0, 10 and 15 minutes of walking, home at 20; the bus takes 2 minutes a leg and 9 from stop 0 home. */
    private static void byHand() {
        WaitOrWalkOn x = Due.road("s800;s400;h400;p80;lb211111;e2;m5;");
        home(x, 0, 9, 9, 10, 11, 12, 13, 14, 25, 25, 25, 25, 25, 25, 25);
        home(x, 1, 9, 9, 20, 20, 20, 20, 20, 20, 20, 17, 20, 20, 20, 20);
        home(x, 2, 9, 9, 10, 11, 20, 20, 20, 20, 20, 17, 18, 19, 20, 20);
        home(x, 3, 1, 9, 10, 11, 12, 21, 21, 21, 21, 21, 18, 19, 20, 21);
        home(x, 3, 0, 9, 10, 11, 20, 20, 20, 20, 20, 17, 18, 19, 20, 20);
        home(x, 4, 9, 7, 11, 11, 10, 11, 11, 11, 11, 11, 11, 11, 11, 11);
        home(x, 5, 1, 9, 10, 11, 12, 13, 23, 23, 23, 23, 23, 19, 20, 23);
        home(x, 5, 0, 9, 10, 11, 20, 20, 20, 20, 20, 17, 18, 19, 20, 20);
        Due.is("no sight", x.set(2, 0), 2);
        home(x, 2, 9, 9, 20, 20, 20, 20, 20, 20, 20, 17, 20, 20, 20, 20);
        home(x, 5, 2, 9, 10, 11, 12, 13, 26, 26, 26, 26, 26, 26, 26, 26);
        Due.is("limit 1", x.set(3, 1), 5);
        home(x, 0, 0, 9, 10, 21, 21, 21, 21, 21, 21, 21, 18, 21, 21, 21);
        // Chances 1, 1, 1 and never 1: the walker is home in 9, 20, 20 and 20.
        Due.isFraction("mean", x.mean(0, 1, 0, 0), x.mean(0, 1, 0, 1), 89, 5);
        Due.isFraction("sooner 8", x.sooner(0, 1, 0, 8, 0), x.sooner(0, 1, 0, 8, 1), 0, 1);
        Due.isFraction("sooner 9", x.sooner(0, 1, 0, 9, 0), x.sooner(0, 1, 0, 9, 1), 1, 5);
        Due.isFraction("sooner 19", x.sooner(0, 1, 0, 19, 0), x.sooner(0, 1, 0, 19, 1), 1, 5);
        Due.isFraction("sooner 20", x.sooner(0, 1, 0, 20, 0), x.sooner(0, 1, 0, 20, 1), 1, 1);
        Due.isFraction("sooner 999", x.sooner(0, 1, 0, 999, 0), x.sooner(0, 1, 0, 999, 1), 1, 1);
        Due.isFraction("sooner 0", x.sooner(0, 1, 0, 0, 0), x.sooner(0, 1, 0, 0, 1), 0, 1);
    }

    /** An express goes by at stop 1, where a bus would halt. */
    private static void passedAndHalting() {
        WaitOrWalkOn x = Due.road("s400;s400;s400;h80;p80;le211;");
        Due.is("a bus would be there in 5", x.homeAt(0, 1, 0, 3), 16);
        Due.is("the looker does not wait there", x.homeAt(0, 2, 0, 4), 16);
        Due.is("he is at stop 2 in 10", x.homeAt(0, 1, 0, 6), 13);
        Due.is("the lazy one waits there all the same", x.homeAt(0, 5, 2, 12), 24);
        Due.is("at each but the last", x.homeAt(0, 5, 3, 12), 28);
    }

    private static void oneStop() {
        WaitOrWalkOn x = Due.road("h401;p80;lb209;");
        for (int kind = 0; kind <= 5; kind++) {
            for (int t = 0; t <= 12; t++) {
                Due.is("one stop, kind " + kind, x.homeAt(0, kind, 12, t), kind == 4 ? 3 : 6);
            }
        }
        Due.is("nothing to gain", x.rules(0), 0);
    }

    private static void rules() {
        WaitOrWalkOn x = Due.road("s800;s400;h400;p80;e0;lb2010001;lb202;lb291001;");
        Due.is("worth to wait for the second", x.rules(0), 4);
        Due.is("it comes at once", x.rules(1), 0);
        Due.is("it is too unlikely", x.rules(2), 0);
        Due.is("sight does for two minutes", x.set(2, 2), 0);
        Due.is("the least of several", x.rules(0), 2);
    }

    private static int lotsByHand(WaitOrWalkOn x, int kind, int n, int z, int... weights) {
        BigInteger seed = BigInteger.valueOf(z);
        BigInteger word = BigInteger.ONE.shiftLeft(32);
        int all = 0;
        for (int w : weights) {
            all += w;
        }
        int sum = 0;
        for (int night = 0; night < n; night++) {
            seed = seed.multiply(BigInteger.valueOf(1664525)).add(BigInteger.valueOf(1013904223)).mod(word);
            long draw = seed.longValue() % (1L << 31) / 256 % all;
            int t = 0;
            while (draw >= weights[t]) {
                draw -= weights[t];
                t++;
            }
            sum += x.homeAt(0, kind, 5, t);
        }
        return sum;
    }

    private static void lots() {
        WaitOrWalkOn x = Due.road("s900;s900;h900;p33;m7;lb39102003000405;");
        int[] weights = {1, 0, 2, 0, 0, 3, 0, 0, 0, 4, 0, 5, 9};
        int[] seeds = {0, 1, -1, 7, 12345, Integer.MAX_VALUE, Integer.MIN_VALUE};
        for (int kind = 0; kind <= 5; kind++) {
            for (int z : seeds) {
                for (int n : new int[] {1, 2, 17, 30}) {
                    Due.is("lots " + kind + " " + n + " " + z, x.lots(0, kind, n, z), lotsByHand(x, kind, n, z, weights));
                }
            }
        }
        Due.is("the seed is not kept", x.lots(0, 0, 30, 5), x.lots(0, 0, 30, 5));
    }

    private static void againstModel() {
        Random lot = new Random(11);
        for (int i = 0; i < 300; i++) {
            Model m = Model.random(lot, 7, 1 + lot.nextInt(3), 9);
            WaitOrWalkOn x = m.object();
            for (int line = 0; line < m.runs.length; line++) {
                for (int kind = 0; kind <= 5; kind++) {
                    oneGoer(m, x, line, kind, lot.nextInt(13), lot.nextInt(120));
                }
                int rule = 0;
                for (int figure = 1; figure <= 12; figure++) {
                    if (m.homeSum(line, 3, figure) < m.homeSum(line, 3, rule)) {
                        rule = figure;
                    }
                }
                Due.is("rules " + m, x.rules(line), rule);
            }
        }
    }

    private static void oneGoer(Model m, WaitOrWalkOn x, int line, int kind, int figure, int minute) {
        int above = 0;
        for (int t = 0; t <= 12; t++) {
            int home = m.home(line, kind, figure, t);
            Due.is(m + "homeAt " + line + " " + kind + " " + figure + " " + t, x.homeAt(line, kind, figure, t), home);
            above += home <= minute ? m.weights[line][t] : 0;
        }
        sameFraction(m + "mean", x.mean(line, kind, figure, 0), x.mean(line, kind, figure, 1),
            m.homeSum(line, kind, figure), m.total(line));
        sameFraction(m + "sooner", x.sooner(line, kind, figure, minute, 0), x.sooner(line, kind, figure, minute, 1),
            above, m.total(line));
    }

    static void sameFraction(String call, long above, long below, long wantAbove, long wantBelow) {
        long divisor = BigInteger.valueOf(wantAbove).gcd(BigInteger.valueOf(wantBelow)).longValue();
        Due.isFraction(call, above, below, wantAbove / divisor, wantBelow / divisor);
    }

    private static void refusals() {
        WaitOrWalkOn x = Due.road("s100;lb211;");
        Due.is("comes line", x.comes(1, -1, -1, 2), Due.asLong(Due.NOBODY));
        Due.is("comes line", x.comes(-1, -1, -1, 2), Due.asLong(Due.NOBODY));
        Due.is("comes below", x.comes(0, -1, 12, 2), Due.asLong(Due.BELOW));
        Due.is("comes below", x.comes(0, 13, -1, 2), Due.asLong(Due.BELOW));
        Due.is("comes above", x.comes(0, 13, 0, 2), Due.asLong(Due.ROOM));
        Due.is("comes above", x.comes(0, 0, 12, 2), Due.asLong(Due.ROOM));
        Due.is("comes part", x.comes(0, 0, 0, 2), Due.asLong(Due.OTHER));
        Due.is("comes part", x.comes(0, 0, 0, -1), Due.asLong(Due.OTHER));
        Due.is("homeAt line", x.homeAt(1, -1, -1, -1), Due.NOBODY);
        Due.is("homeAt kind", x.homeAt(0, -1, -1, -1), Due.OTHER);
        Due.is("homeAt kind", x.homeAt(0, 6, 13, 13), Due.OTHER);
        Due.is("homeAt below", x.homeAt(0, 5, -1, 13), Due.BELOW);
        Due.is("homeAt below", x.homeAt(0, 5, 13, -1), Due.BELOW);
        Due.is("homeAt above", x.homeAt(0, 5, 13, 0), Due.ROOM);
        Due.is("homeAt above", x.homeAt(0, 5, 12, 13), Due.ROOM);
        Due.is("mean line", x.mean(1, 6, -1, 2), Due.asLong(Due.NOBODY));
        Due.is("mean kind", x.mean(0, 6, -1, 0), Due.asLong(Due.OTHER));
        Due.is("mean below", x.mean(0, 5, -1, 2), Due.asLong(Due.BELOW));
        Due.is("mean above", x.mean(0, 5, 13, 2), Due.asLong(Due.ROOM));
        Due.is("mean part", x.mean(0, 5, 12, 2), Due.asLong(Due.OTHER));
        Due.is("sooner line", x.sooner(1, 6, -1, -1, 2), Due.asLong(Due.NOBODY));
        Due.is("sooner kind", x.sooner(0, -1, -1, -1, 0), Due.asLong(Due.OTHER));
        Due.is("sooner below", x.sooner(0, 0, -1, 1000, 2), Due.asLong(Due.BELOW));
        Due.is("sooner below", x.sooner(0, 0, 13, -1, 2), Due.asLong(Due.BELOW));
        Due.is("sooner above", x.sooner(0, 0, 13, 0, 2), Due.asLong(Due.ROOM));
        Due.is("sooner above", x.sooner(0, 0, 0, 1000, 2), Due.asLong(Due.ROOM));
        Due.is("sooner part", x.sooner(0, 0, 0, 999, -1), Due.asLong(Due.OTHER));
        Due.is("rules line", x.rules(1), Due.NOBODY);
        Due.is("lots line", x.lots(1, 6, 0, 0), Due.NOBODY);
        Due.is("lots kind", x.lots(0, 6, 0, 0), Due.OTHER);
        Due.is("lots below", x.lots(0, 5, 0, 0), Due.BELOW);
        Due.is("lots above", x.lots(0, 5, 31, 0), Due.ROOM);
        int[] counted = {7, 9, 0, 8, 0, 8};
        for (int i = 0; i < counted.length; i++) {
            Due.is("refused -" + (i + 1), x.count(11 + i), counted[i]);
        }
    }
}
