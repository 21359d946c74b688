import java.util.Random;

/** Promises 21 to 24, 26, 27, 29 and 30: back, gone, stood, others, rows, images. */
public final class StandingTest {
    public static void main(String[] args) {
        back();
        goneByHand();
        goneAgainstModel();
        others();
        rows();
        images();
        Due.end();
    }

    private static void back() {
        WaitOrWalkOn x = Due.road("s600;s50;h300;p80;");
        int[][] due = {{0, 0, 0}, {0, 1, 80}, {0, 7, 560}, {0, 8, 600}, {0, 30, 600}, {1, 0, 0}, {1, 1, 50},
            {2, 3, 240}, {2, 4, 300}, {2, 30, 300}};
        for (int[] row : due) {
            Due.is("back " + row[0] + " " + row[1], x.back(row[0], row[1]), row[2]);
        }
        Due.is("home 0", x.set(0, 0), 300);
        Due.is("back from the last", x.back(2, 9), 0);
        Due.is("back stop", x.back(3, -1), Due.NOBODY);
        Due.is("back stop", x.back(-1, 31), Due.NOBODY);
        Due.is("back below", x.back(2, -1), Due.BELOW);
        Due.is("back above", x.back(2, 31), Due.ROOM);
    }

    private static void goneIs(WaitOrWalkOn x, int stop, int minute, long above, long below) {
        String call = "gone " + stop + " " + minute;
        Due.isFraction(call, x.gone(0, stop, minute, 0), x.gone(0, stop, minute, 1), above, below);
    }

    private static void stoodIs(WaitOrWalkOn x, int stop, int from, int minute, long above, long below) {
        String call = "stood " + stop + " " + from + " " + minute;
        Due.isFraction(call, x.stood(0, stop, from, minute, 0), x.stood(0, stop, from, minute, 1), above, below);
    }

    /** It comes in 0 (3 of 12), 2 (4) or 11 (3), or never (2); stop 2 is 8 minutes further. */
    private static void goneByHand() {
        WaitOrWalkOn x = Due.road("s9;s9;s9;le42304000000003;lb101;");
        goneIs(x, 0, 0, 0, 1);
        goneIs(x, 0, 1, 1, 4);
        goneIs(x, 0, 2, 1, 4);
        goneIs(x, 0, 3, 7, 12);
        goneIs(x, 0, 99, 5, 6);
        goneIs(x, 1, 99, 0, 1);
        goneIs(x, 2, 8, 0, 1);
        goneIs(x, 2, 9, 1, 4);
        goneIs(x, 3, 99, 5, 6);
        stoodIs(x, 0, 0, 0, 0, 1);
        stoodIs(x, 0, 3, 3, 7, 12);
        stoodIs(x, 0, 1, 3, 3, 8);
        stoodIs(x, 0, 2, 3, 3, 8);
        stoodIs(x, 0, 1, 2, 1, 4);
        stoodIs(x, 0, 0, 99, 0, 1);
        stoodIs(x, 0, 1, 99, 3, 5);
        stoodIs(x, 1, 1, 99, 0, 1);
        stoodIs(x, 2, 9, 20, 3, 5);
        Due.isFraction("it came, but was not seen", x.stood(1, 0, 0, 9, 0), x.stood(1, 0, 0, 9, 1), 0, 1);
        Due.isFraction("it came ahead", x.stood(1, 0, 1, 9, 0), x.stood(1, 0, 1, 9, 1), 1, 1);
        Due.is("gone line", x.gone(2, 0, -1, 2), Due.asLong(Due.NOBODY));
        Due.is("gone stop", x.gone(0, 4, 100, 2), Due.asLong(Due.NOBODY));
        Due.is("gone below", x.gone(0, 1, -1, 2), Due.asLong(Due.BELOW));
        Due.is("gone above", x.gone(0, 1, 100, 2), Due.asLong(Due.ROOM));
        Due.is("gone part", x.gone(0, 1, 99, 2), Due.asLong(Due.OTHER));
        Due.is("stood line", x.stood(-1, 0, -1, -1, 2), Due.asLong(Due.NOBODY));
        Due.is("stood stop", x.stood(0, -1, -1, -1, 2), Due.asLong(Due.NOBODY));
        Due.is("stood below", x.stood(0, 0, -1, 100, 2), Due.asLong(Due.BELOW));
        Due.is("stood below", x.stood(0, 0, 5, -1, 2), Due.asLong(Due.BELOW));
        Due.is("stood above", x.stood(0, 0, 5, 100, 2), Due.asLong(Due.ROOM));
        Due.is("stood above", x.stood(0, 0, 5, 4, 2), Due.asLong(Due.ROOM));
        Due.is("stood part", x.stood(0, 0, 5, 5, 2), Due.asLong(Due.OTHER));
        Due.is("stood part", x.stood(0, 1, 5, 5, -1), Due.asLong(Due.OTHER));
    }

    private static void goneAgainstModel() {
        Random lot = new Random(9);
        for (int i = 0; i < 300; i++) {
            Model m = Model.random(lot, 7, 1, 9);
            WaitOrWalkOn x = m.object();
            for (int j = 0; j < 20; j++) {
                int stop = lot.nextInt(m.last() + 1);
                int minute = lot.nextInt(j < 10 ? 100 : 20);
                int from = lot.nextInt(minute + 1);
                long gone = 0;
                long stood = 0;
                long seen = 0;
                for (int t = 0; t < 12 && m.halts(0, stop); t++) {
                    int at = t + m.ride(0, stop);
                    gone += at < minute ? m.weights[0][t] : 0;
                    stood += at < from ? m.weights[0][t] : 0;
                    seen += at >= from && at < minute ? m.weights[0][t] : 0;
                }
                GoersTest.sameFraction(m + "gone", x.gone(0, stop, minute, 0), x.gone(0, stop, minute, 1),
                    gone, m.total(0));
                GoersTest.sameFraction(m + "stood", x.stood(0, stop, from, minute, 0),
                    x.stood(0, stop, from, minute, 1), stood, Math.max(1, m.total(0) - seen));
            }
        }
    }

    private static void othersAre(WaitOrWalkOn x, int n, int h, int c, int... due) {
        for (int minute = 0; minute < due.length; minute++) {
            Due.is("others " + n + " " + h + " " + c + " " + minute, x.others(n, h, c, minute), due[minute]);
        }
    }

    private static void others() {
        WaitOrWalkOn x = new WaitOrWalkOn();
        othersAre(x, 1, 30, 0, 1, 0, 0);
        othersAre(x, 9, 0, 3, 9, 9, 9, 0, 0);
        // Hearts 2, 5, 8, 11; 1, 4, 7, 10; the first leaves; then 2 less for the others: 1, 4, 7; 0, 3, 6; ..
        othersAre(x, 4, 3, 2, 4, 4, 3, 3, 2, 2, 1, 1, 0, 0);
        // Hearts 0, 1, 2: the first leaves in 1, and so does the second; the third in 2.
        othersAre(x, 3, 1, 0, 3, 1, 0);
        Due.is("the strongest", x.others(9, 30, 30, 60), others(9, 30, 30, 60));
        for (int n = 1; n <= 9; n++) {
            for (int h = 0; h <= 30; h += 3) {
                for (int c = 0; c <= 30; c += 5) {
                    for (int minute = 0; minute <= 60; minute += 4) {
                        Due.is("others", x.others(n, h, c, minute), others(n, h, c, minute));
                    }
                }
            }
        }
        Due.is("n below", x.others(0, 31, 31, 61), Due.BELOW);
        Due.is("h below", x.others(10, -1, 31, 61), Due.BELOW);
        Due.is("c below", x.others(10, 31, -1, 61), Due.BELOW);
        Due.is("minute below", x.others(10, 31, 31, -1), Due.BELOW);
        Due.is("n above", x.others(10, 30, 30, 60), Due.ROOM);
        Due.is("h above", x.others(9, 31, 30, 60), Due.ROOM);
        Due.is("c above", x.others(9, 30, 31, 60), Due.ROOM);
        Due.is("minute above", x.others(9, 30, 30, 61), Due.ROOM);
        Due.is("refused -4", x.count(14), 4);
        Due.is("refused -6", x.count(16), 4);
    }

    private static int others(int n, int h, int c, int minute) {
        int[] hearts = new int[n];
        boolean[] waits = new boolean[n];
        for (int k = 0; k < n; k++) {
            hearts[k] = k * h + c;
            waits[k] = true;
        }
        int left = 0;
        int still = n;
        for (int m = 1; m <= minute; m++) {
            int leave = 0;
            for (int k = 0; k < n; k++) {
                hearts[k] -= 1 + left;
                if (waits[k] && hearts[k] <= 0) {
                    waits[k] = false;
                    leave++;
                }
            }
            left = leave;
            still -= leave;
        }
        return still;
    }

    private static void judged(WaitOrWalkOn x, int due, int... row) {
        for (int i = 0; i < row.length; i++) {
            Due.is("row", x.row(row[i]), i + 1);
        }
        Due.is("in the row", x.count(6), row.length);
        Due.is("judged", x.judge(), due);
        Due.is("in the row then", x.count(6), 0);
    }

    private static void rows() {
        WaitOrWalkOn x = Due.road("s600;s400;s801;h300;p80;");
        judged(x, -9);
        judged(x, -9, 0);
        judged(x, -9, 999);
        judged(x, -9, 7, 15, 20, 31);
        judged(x, -9, 0, 100, 200, 999);
        judged(x, 1, 7, 14, 20, 31);
        judged(x, 2, 7, 15, 19, 31);
        judged(x, 3, 7, 15, 20, 30);
        judged(x, 1, 7, 6, 5, 4);
        judged(x, 4, 7, 15, 20, 31, 99);
        judged(x, 4, 7, 15, 20, 31, 99, 0, 0);
        Due.is("pace", x.set(1, 200), 80);
        judged(x, -9, 7, 10, 12, 17);
        WaitOrWalkOn one = new WaitOrWalkOn();
        judged(one, -9, 5);
        judged(one, 1, 5, 500);
        Due.is("row below", one.row(-1), Due.BELOW);
        Due.is("row above", one.row(1000), Due.ROOM);
        for (int i = 1; i <= 12; i++) {
            Due.is("row", one.row(999), i);
        }
        Due.is("row full", one.row(0), Due.ROOM);
        Due.is("row full, below", one.row(-1), Due.BELOW);
        Due.is("in the row", one.count(6), 12);
        Due.is("judged", one.judge(), 1);
    }

    private static void images() {
        WaitOrWalkOn x = new WaitOrWalkOn();
        Due.is("on", x.on(), Due.STATE);
        Due.is("on", x.on(), Due.STATE);
        Due.is("refused -3", x.count(13), 2);
        Due.is("road", Due.tell(x, "s7;h8;p90;e3;m4;lt537001;"), 6);
        Due.is("image", x.image(), 2);
        Due.is("row", x.row(5), 1);
        Due.is("letter", x.letter('s'), 1);
        Due.is("home", x.set(0, 9), 8);
        Due.is("pace", x.set(1, 99), 90);
        Due.is("sight", x.set(2, 9), 3);
        Due.is("limit", x.set(3, 9), 4);
        Due.is("the letters go on", x.letter('3'), 2);
        Due.is("the letters go on", x.letter(';'), 3);
        Due.is("road", x.road(), 1);
        Due.is("road", Due.tell(x, "lb901;"), 1);
        Due.is("letter", x.letter('h'), 1);
        Due.is("refused", x.stop(9, 0), Due.NOBODY);
        Due.is("stops", x.count(0), 3);
        for (int i = 0; i < 2; i++) {
            Due.is("on", x.on(), 2);
            int[] due = {2, 1, 15, 90, 3, 4, 1, 1};
            for (int what = 0; what < due.length; what++) {
                Due.is("count " + what, x.count(what), due[what]);
            }
            int[] line = {4, 5, 3, 11, 3};
            for (int what = 0; what < line.length; what++) {
                Due.is("line " + what, x.line(0, what), line[what]);
            }
            Due.is("chance", x.chance(0, 0), 7);
            Due.is("chance", x.chance(0, 3), 1);
            Due.is("the other stop is gone", x.stop(2, 0), Due.NOBODY);
            Due.is("refusals stay", x.count(11), 2 + i);
            Due.is("changed once more", x.set(0, 5), 8);
        }
        Due.is("a second image", x.image(), 2);
        Due.is("home", x.set(0, 6), 5);
        Due.is("on", x.on(), 2);
        Due.is("yards", x.count(2), 12);
        Due.is("refused -3", x.count(13), 2);
    }
}
