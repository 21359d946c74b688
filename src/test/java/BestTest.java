import java.util.Random;

/** Promises 14 to 17: what is best, its mean, patience and what news is worth. */
public final class BestTest {
    public static void main(String[] args) {
        byHand();
        certain();
        lastMinutes();
        fasterThanTheLine();
        planIsMadeAnew();
        againstModel();
        againstSchedules();
        refusals();
        Due.end();
    }

    private static void best(WaitOrWalkOn x, int stop, int minute, int choice, long above, long below) {
        String call = "best at " + stop + " in " + minute;
        Due.is(call, x.best(0, stop, minute), choice);
        Due.isFraction(call, x.bestMean(0, stop, minute, 0), x.bestMean(0, stop, minute, 1), above, below);
    }

    /** Walking takes 10 + 10, the bus 2; it comes in 0, 6 or never, alike. */
    private static void byHand() {
        WaitOrWalkOn x = Due.road("s800;h800;p80;lb211000001;");
        // Walking at once: 12, 20, 20; waiting up to 6: 12, 18, 26.
        best(x, 0, 0, 1, 52, 3);
        // Not in 0: walking 21, waiting 18 or 26 (22).
        best(x, 0, 1, 1, 21, 1);
        // In 2: walking 22, waiting 22 in the mean.
        best(x, 0, 2, 0, 22, 1);
        best(x, 0, 5, 0, 22, 1);
        // In 6 it is there or never comes.
        best(x, 0, 6, 1, 22, 1);
        best(x, 0, 7, 1, 27, 1);
        best(x, 0, 60, 1, 80, 1);
        best(x, 1, 0, 1, 10, 1);
        best(x, 1, 60, 1, 70, 1);
        Due.is("patience", x.patience(0), 0);
        // Told: 12, 18 and 20.
        Due.isFraction("news", x.news(0, 0), x.news(0, 1), 2, 3);
    }

    /** A line that surely comes in 3: waiting is best, and behind it nothing can be. */
    private static void certain() {
        WaitOrWalkOn x = Due.road("s800;s800;h800;p80;lb200009;le200009;lb109;");
        for (int minute = 0; minute <= 3; minute++) {
            best(x, 0, minute, 0, 17, 1);
        }
        best(x, 0, 4, -9, 0, 1);
        best(x, 0, 60, -9, 0, 1);
        best(x, 1, 5, 0, 17, 1);
        best(x, 1, 6, -9, 0, 1);
        best(x, 2, 7, 1, 17, 1);
        best(x, 2, 8, -9, 0, 1);
        Due.is("patience ends with it", x.patience(0), -9);
        Due.isFraction("no news", x.news(0, 0), x.news(0, 1), 0, 1);
        // The express goes by at stop 1 in 5: one has walked from there on, and is home in 25.
        Due.is("it goes by just now", x.best(1, 1, 5), 0);
        Due.isFraction("it goes by just now", x.bestMean(1, 1, 5, 0), x.bestMean(1, 1, 5, 1), 25, 1);
        Due.is("it will go by", x.best(1, 1, 4), 1);
        Due.isFraction("it will go by", x.bestMean(1, 1, 4, 0), x.bestMean(1, 1, 4, 1), 24, 1);
        Due.is("it is there", x.best(2, 0, 0), 0);
        Due.is("it was there", x.best(2, 0, 1), -9);
        Due.is("patience", x.patience(2), -9);
    }

    /** In minute 60 one rides only what is there just then; whoever comes to a stop later walks. */
    private static void lastMinutes() {
        WaitOrWalkOn x = Due.road("s999;s999;s999;s999;s999;s999;h0;p20;lr909;lr9009;lr9999;");
        Due.is("to the fifth", x.there(0, 5), 55);
        Due.is("in 55 there", x.best(0, 5, 55), 0);
        Due.isFraction("in 55 there", x.bestMean(0, 5, 55, 0), x.bestMean(0, 5, 55, 1), 65, 1);
        Due.is("in 56 gone", x.best(0, 5, 56), -9);
        WaitOrWalkOn y = Due.road("s999;s999;s999;s999;s999;s999;h0;p20;lr90000009;lr900000009;lr99000009;");
        Due.is("in 60 just there", y.best(0, 5, 60), 1);
        Due.isFraction("in 60 just there", y.bestMean(0, 5, 60, 0), y.bestMean(0, 5, 60, 1), 70, 1);
        Due.is("one too late", y.best(1, 5, 60), 1);
        Due.isFraction("one too late", y.bestMean(1, 5, 60, 0), y.bestMean(1, 5, 60, 1), 110, 1);
        Due.is("one too late in 59", y.best(1, 5, 59), 1);
        Due.isFraction("one too late in 59", y.bestMean(1, 5, 59, 0), y.bestMean(1, 5, 59, 1), 109, 1);
        Due.isFraction("perhaps", y.bestMean(2, 5, 60, 0), y.bestMean(2, 5, 60, 1), 90, 1);
        WaitOrWalkOn z = Due.road("s100;s100;s1;h1;p100;lr7900000000009;");
        Due.is("long waiting is never worth it", z.patience(0), 0);
    }

    /**
     * A leg of 1 minute that the line takes 9 for: whoever walks on at once from stop 0 knows at stop 1 that the
     * line is not between the stops, though one who only stands at stop 1 would not know.
     */
    private static void fasterThanTheLine() {
        WaitOrWalkOn x = Due.road("s1;s999;h0;p20;lb90900000000001;");
        best(x, 0, 0, 0, 191, 10);
        // In 1 it can only come in 11, which lets one be home in 29, from whichever stop he rides.
        best(x, 0, 1, 0, 29, 1);
        // Who only knows that it has not been at stop 1 ahead of 2 (or 9) hopes for the one that came in 0, too.
        best(x, 1, 2, 0, 191, 10);
        best(x, 1, 9, 0, 191, 10);
        best(x, 1, 10, 0, 29, 1);
    }

    private static void planIsMadeAnew() {
        WaitOrWalkOn x = Due.road("s800;h800;p80;lb211000001;lb209;");
        best(x, 0, 0, 1, 52, 3);
        Due.isFraction("the other line", x.bestMean(1, 0, 0, 0), x.bestMean(1, 0, 0, 1), 12, 1);
        best(x, 0, 0, 1, 52, 3);
        Due.is("image", x.image(), 2);
        Due.is("home", x.set(0, 0), 800);
        best(x, 0, 0, 1, 22, 3);
        Due.is("road", Due.tell(x, "h80;"), 1);
        best(x, 0, 0, 1, 25, 3);
        Due.is("on", x.on(), 2);
        best(x, 0, 0, 1, 52, 3);
        Due.is("fault", Due.tell(x, "h80;x"), -1004);
        best(x, 0, 0, 1, 52, 3);
    }

    private static void againstModel() {
        Random lot = new Random(5);
        for (int i = 0; i < 400; i++) {
            Model m = Model.random(lot, 7, 1 + lot.nextInt(3), 9);
            WaitOrWalkOn x = m.object();
            for (int line = 0; line < m.runs.length; line++) {
                wholeLine(m, x, line);
            }
        }
    }

    private static void wholeLine(Model m, WaitOrWalkOn x, int line) {
        int patience = -9;
        for (int minute = 59; minute >= 0; minute--) {
            int choice = m.choice(line, 0, minute);
            patience = choice == 1 ? minute : choice == -9 ? -9 : patience;
        }
        Due.is(m + "patience " + line, x.patience(line), patience);
        for (int stop = 0; stop <= m.last(); stop++) {
            for (int minute = 0; minute <= 60; minute++) {
                String call = m + "best " + line + " " + stop + " " + minute;
                int set = m.possible(line, stop, minute);
                long weight = m.weight(line, set);
                Due.is(call, x.best(line, stop, minute), m.choice(line, stop, minute));
                GoersTest.sameFraction(call, x.bestMean(line, stop, minute, 0), x.bestMean(line, stop, minute, 1),
                    m.best(line, stop, minute, set), Math.max(1, weight));
            }
        }
        long told = (long) m.weights[line][12] * m.walk(0);
        for (int t = 0; t < 12; t++) {
            told += (long) m.weights[line][t] * Math.min(m.walk(0), t + m.ride(line, m.last()) + m.walk(m.last()));
        }
        GoersTest.sameFraction(m + "news " + line, x.news(line, 0), x.news(line, 1),
            m.best(line, 0, 0, m.possible(line, 0, 0)) - told, m.total(line));
    }

    private static void againstSchedules() {
        Random lot = new Random(77);
        for (int i = 0; i < 60; i++) {
            Model m = Model.random(lot, 4, 1, 4);
            WaitOrWalkOn x = m.object();
            for (int j = 0; j < 6; j++) {
                int stop = lot.nextInt(m.last() + 1);
                int minute = j == 0 ? 0 : lot.nextInt(30);
                long weight = m.weight(0, m.possible(0, stop, minute));
                if (weight > 0) {
                    GoersTest.sameFraction(m + "schedule " + stop + " " + minute, x.bestMean(0, stop, minute, 0),
                        x.bestMean(0, stop, minute, 1), m.bestSchedule(0, stop, minute, 26), weight);
                }
            }
        }
    }

    private static void refusals() {
        WaitOrWalkOn x = Due.road("s100;lb211;");
        Due.is("best line", x.best(1, 0, -1), Due.NOBODY);
        Due.is("best stop", x.best(0, 2, 61), Due.NOBODY);
        Due.is("best stop", x.best(0, -1, 61), Due.NOBODY);
        Due.is("best below", x.best(0, 1, -1), Due.BELOW);
        Due.is("best above", x.best(0, 1, 61), Due.ROOM);
        Due.is("mean line", x.bestMean(-1, 0, -1, 2), Due.asLong(Due.NOBODY));
        Due.is("mean stop", x.bestMean(0, 2, -1, 2), Due.asLong(Due.NOBODY));
        Due.is("mean below", x.bestMean(0, 1, -1, 2), Due.asLong(Due.BELOW));
        Due.is("mean above", x.bestMean(0, 1, 61, 2), Due.asLong(Due.ROOM));
        Due.is("mean part", x.bestMean(0, 1, 60, 2), Due.asLong(Due.OTHER));
        Due.is("mean part", x.bestMean(0, 1, 60, -1), Due.asLong(Due.OTHER));
        Due.is("patience line", x.patience(1), Due.NOBODY);
        Due.is("news line", x.news(1, 2), Due.asLong(Due.NOBODY));
        Due.is("news part", x.news(0, 2), Due.asLong(Due.OTHER));
        int[] counted = {7, 3, 0, 2, 0, 2};
        for (int i = 0; i < counted.length; i++) {
            Due.is("refused -" + (i + 1), x.count(11 + i), counted[i]);
        }
    }
}
