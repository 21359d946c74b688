/** The boundaries of promises 21 to 24, 26, 27, 29 and 30: a function for each sentence. */
public final class StandingEdgesTest {
    public static void main(String[] args) {
        backNoMoreThanTheLeg();
        backHomeFromTheLast();
        goneAheadOfAMinute();
        goneWhereItDoesNotHalt();
        goneAtTheFarEnd();
        stoodThatOneLeftOut();
        stoodFromThatMinuteOn();
        stoodCanNotBe();
        othersFromMinute1On();
        othersWithHeartNought();
        othersWhoLeftInTheMinuteAhead();
        othersAtTheEnds();
        rowOfTwelve();
        firstNumberIsAny();
        noFasterThanByPace();
        notBack();
        moreNumbersThanStops();
        rowHasNoneThen();
        imageOfANewObject();
        imageHoldsAllThatIsTold();
        imageHoldsNoRowLettersRefusals();
        imageIsTakenAnew();
        Due.end();
    }

    /** BACK: "MINUTES times PACE, no more than the LEG to the next one"; MINUTES 0 and 30. */
    private static void backNoMoreThanTheLeg() {
        WaitOrWalkOn x = Due.road("s600;s599;s601;h0;p20;");
        Due.is("0 MINUTES", x.back(0, 0), 0);
        Due.is("1 MINUTE", x.back(0, 1), 20);
        Due.is("29 MINUTES", x.back(0, 29), 580);
        Due.is("30 MINUTES, just the LEG", x.back(0, 30), 600);
        Due.is("a YARD less", x.back(1, 30), 599);
        Due.is("a YARD more", x.back(2, 30), 600);
        Due.is("-1 MINUTES", x.back(0, -1), Due.BELOW);
        Due.is("31 MINUTES", x.back(0, 31), Due.ROOM);
        Due.is("the greatest PACE", x.set(1, 200), 20);
        Due.is("1 MINUTE", x.back(0, 1), 200);
        Due.is("30 MINUTES", x.back(2, 30), 601);
    }

    /** "(HOME from the last)": HOME 0 and 999, and with one STOP. */
    private static void backHomeFromTheLast() {
        WaitOrWalkOn x = Due.road("s600;h999;p200;");
        Due.is("HOME", x.back(1, 30), 999);
        Due.is("fewer YARDS", x.back(1, 4), 800);
        Due.is("no way HOME", x.set(0, 0), 999);
        Due.is("HOME", x.back(1, 30), 0);
        Due.is("the LEG from STOP 0 still", x.back(0, 30), 600);
        WaitOrWalkOn one = new WaitOrWalkOn();
        Due.is("one STOP", one.back(0, 5), 400);
        Due.is("one STOP", one.back(0, 4), 320);
        Due.is("no other", one.back(1, 5), Due.NOBODY);
    }

    private static void gone(WaitOrWalkOn x, int stop, int minute, long above, long below) {
        String call = "gone " + stop + " " + minute;
        Due.isFraction(call, x.gone(0, stop, minute, 0), x.gone(0, stop, minute, 1), above, below);
    }

    private static void stood(WaitOrWalkOn x, int stop, int from, int minute, long above, long below) {
        String call = "stood " + stop + " " + from + " " + minute;
        Due.isFraction(call, x.stood(0, stop, from, minute, 0), x.stood(0, stop, from, minute, 1), above, below);
    }

    /** GONE: "how likely it has been at a STOP ahead of a MINUTE": in that MINUTE does not count yet. */
    private static void goneAheadOfAMinute() {
        WaitOrWalkOn x = Due.road("s1;s1;lb21100000000002;");
        gone(x, 0, 0, 0, 1);
        gone(x, 0, 1, 1, 4);
        gone(x, 0, 11, 1, 4);
        gone(x, 0, 12, 3, 4);
        gone(x, 1, 2, 0, 1);
        gone(x, 1, 3, 1, 4);
        gone(x, 2, 15, 1, 4);
        gone(x, 2, 16, 3, 4);
        gone(x, 2, 99, 3, 4);
    }

    /** "(0 by 1, if it does not halt there)". */
    private static void goneWhereItDoesNotHalt() {
        WaitOrWalkOn x = Due.road("s1;s1;le101;");
        gone(x, 1, 99, 0, 1);
        stood(x, 1, 99, 99, 0, 1);
        gone(x, 2, 99, 1, 1);
        Due.is("the last but one is even now", Due.tell(x, "s1;"), 1);
        gone(x, 2, 99, 1, 1);
        gone(x, 3, 99, 1, 1);
    }

    /** A MINUTE (0 .. 99) behind the last in which anything can be anywhere. */
    private static void goneAtTheFarEnd() {
        WaitOrWalkOn x = Due.road("s1;s1;s1;s1;s1;s1;lr90000000000001;");
        Due.is("to the last", x.there(0, 6), 65);
        gone(x, 6, 76, 0, 1);
        gone(x, 6, 77, 1, 1);
        gone(x, 6, 99, 1, 1);
        WaitOrWalkOn never = Due.road("s1;lb110;");
        gone(never, 1, 99, 0, 1);
        stood(never, 1, 0, 99, 0, 1);
    }

    /** STOOD: "from an earlier MINUTE on up to that one (that one left out)". */
    private static void stoodThatOneLeftOut() {
        WaitOrWalkOn x = Due.road("lb111010001;");
        // In 0, 2, 6 or never, alike.
        stood(x, 0, 1, 2, 1, 4);
        stood(x, 0, 1, 3, 1, 3);
        stood(x, 0, 1, 6, 1, 3);
        stood(x, 0, 1, 7, 1, 2);
        stood(x, 0, 3, 6, 1, 2);
        stood(x, 0, 3, 7, 2, 3);
        stood(x, 0, 7, 99, 3, 4);
        // From itself on nothing is known: as GONE.
        stood(x, 0, 0, 0, 0, 1);
        stood(x, 0, 3, 3, 1, 2);
        stood(x, 0, 99, 99, 3, 4);
    }

    /** "not there from an earlier MINUTE on": in that MINUTE neither. */
    private static void stoodFromThatMinuteOn() {
        WaitOrWalkOn x = Due.road("s1;lb311010001;");
        stood(x, 0, 2, 3, 1, 3);
        stood(x, 0, 3, 4, 1, 2);
        stood(x, 1, 5, 6, 1, 3);
        stood(x, 1, 6, 7, 1, 2);
        stood(x, 1, 0, 99, 0, 1);
    }

    /** "(0 by 1, if it can not have been so, too)". */
    private static void stoodCanNotBe() {
        WaitOrWalkOn x = Due.road("s1;lb2002;");
        stood(x, 0, 1, 2, 0, 1);
        stood(x, 0, 0, 99, 0, 1);
        stood(x, 0, 2, 2, 1, 1);
        stood(x, 1, 3, 4, 0, 1);
        stood(x, 1, 4, 4, 1, 1);
        stood(x, 1, 0, 3, 0, 1);
        Due.is("from above minute", x.stood(0, 0, 4, 3, 0), Due.asLong(Due.ROOM));
        Due.is("from as minute", x.stood(0, 0, 3, 3, 0), 1);
    }

    private static void others(String why, int n, int h, int c, int minute, int due) {
        String call = why + ", others " + n + " " + h + " " + c + " " + minute;
        Due.is(call, new WaitOrWalkOn().others(n, h, c, minute), due);
    }

    /** "each MINUTE from 1 on": in MINUTE 0 all wait, with HEART 0, too. */
    private static void othersFromMinute1On() {
        others("HEART 0", 9, 0, 0, 0, 9);
        others("HEART 0", 9, 0, 0, 1, 0);
        others("HEART 1", 9, 0, 1, 0, 9);
    }

    /** "who has 0 or less leaves". */
    private static void othersWithHeartNought() {
        others("HEART 1 is 0 then", 1, 0, 1, 1, 0);
        others("HEART 2 is 1 then", 1, 0, 2, 1, 1);
        others("HEART 2 is 0 then", 1, 0, 2, 2, 0);
        others("HEART 30", 1, 0, 30, 29, 1);
        others("HEART 30", 1, 0, 30, 30, 0);
        others("HEART 30, n many", 9, 0, 30, 29, 9);
        others("HEART 30, n many", 9, 0, 30, 30, 0);
    }

    /** "and 1 less for each who left in the MINUTE ahead": not in that MINUTE yet, and once. */
    private static void othersWhoLeftInTheMinuteAhead() {
        // HEARTS 0 and 3: -1 and 2, then 0 (one left in 1): both gone in 2.
        others("one leaves", 2, 3, 0, 1, 1);
        others("and takes the other along", 2, 3, 0, 2, 0);
        // HEARTS 0 and 4: 3, then 1, then 0.
        others("one leaves", 2, 4, 0, 2, 1);
        others("but once only", 2, 4, 0, 3, 0);
        // HEARTS 1, 2, 3, 4, 5: the first in 1; then all are 2 less: -1, 0 and 1, 2; then these, for two.
        others("one by one", 5, 1, 1, 1, 4);
        others("two at once", 5, 1, 1, 2, 2);
        others("and two for these", 5, 1, 1, 3, 0);
    }

    /** "n (1 .. 9)", "(h, c 0 .. 30)", "MINUTE m (0 .. 60)". */
    private static void othersAtTheEnds() {
        // The first leaves in 30, the second (60) has lost one more then: in 59.
        others("30 and 60", 9, 30, 30, 29, 9);
        others("30 and 60", 9, 30, 30, 30, 8);
        others("30 and 60", 9, 30, 30, 58, 8);
        others("30 and 60", 9, 30, 30, 59, 7);
        others("30 and 60", 9, 30, 30, 60, 7);
        others("the least", 1, 0, 0, 0, 1);
        others("n", 0, 0, 0, 0, Due.BELOW);
        others("n", 10, 0, 0, 0, Due.ROOM);
        others("h", 1, 31, 0, 0, Due.ROOM);
        others("c", 1, 0, 31, 0, Due.ROOM);
        others("minute", 1, 0, 0, 61, Due.ROOM);
        others("below goes ahead", 10, 31, 31, -1, Due.BELOW);
    }

    private static void judged(String why, WaitOrWalkOn x, int due, int... row) {
        for (int i = 0; i < row.length; i++) {
            Due.is(why + ", row", x.row(row[i]), i + 1);
        }
        Due.is(why + ", judged", x.judge(), due);
    }

    /** "A ROW of numbers (0 .. 999; 12 at most)". */
    private static void rowOfTwelve() {
        WaitOrWalkOn x = new WaitOrWalkOn();
        Due.is("-1", x.row(-1), Due.BELOW);
        Due.is("1000", x.row(1000), Due.ROOM);
        Due.is("none of these came", x.count(6), 0);
        for (int i = 1; i <= 12; i++) {
            Due.is("number " + i, x.row(i % 2 * 999), i);
        }
        Due.is("a thirteenth", x.row(5), Due.ROOM);
        Due.is("twelve", x.count(6), 12);
    }

    /** "(that of STOP 0 first, any)"; an empty ROW. */
    private static void firstNumberIsAny() {
        WaitOrWalkOn x = Due.road("s80;s80;h1;p80;");
        judged("an empty ROW", x, -9);
        judged("0", x, -9, 0);
        judged("999", x, -9, 999);
        judged("nothing behind 999 can be", x, 1, 999, 999);
    }

    /** "(he walks no faster than by PACE ..)": rounded up, from each STOP to the next. */
    private static void noFasterThanByPace() {
        WaitOrWalkOn x = Due.road("s81;s80;s1;h999;p80;");
        judged("just so", x, -9, 0, 2, 3, 4);
        judged("the first LEG", x, 1, 0, 1, 3, 4);
        judged("the second", x, 2, 0, 2, 2, 4);
        judged("the third", x, 3, 0, 2, 3, 3);
        judged("what was lost is lost", x, 2, 0, 9, 9, 12);
        judged("he may be slow", x, -9, 0, 300, 600, 999);
        judged("fewer than STOPS", x, -9, 0, 2);
        judged("the first that can not be", x, 1, 5, 5, 5, 5);
    }

    /** "not back". */
    private static void notBack() {
        WaitOrWalkOn x = Due.road("s80;s80;h1;p80;");
        judged("back", x, 1, 10, 9, 20);
        judged("back", x, 2, 10, 11, 10);
    }

    /** Promise 27: "more numbers than STOPS can not be". */
    private static void moreNumbersThanStops() {
        WaitOrWalkOn one = new WaitOrWalkOn();
        judged("one STOP", one, -9, 5);
        judged("one too many", one, 1, 5, 900);
        WaitOrWalkOn seven = Due.road("s1;s1;s1;s1;s1;s1;");
        judged("seven", seven, -9, 0, 1, 2, 3, 4, 5, 6);
        judged("HOME is no STOP", seven, 7, 0, 1, 2, 3, 4, 5, 6, 900);
        judged("twelve", seven, 7, 0, 1, 2, 3, 4, 5, 6, 7, 8, 9, 10, 11);
        judged("one ahead of these", seven, 6, 0, 1, 2, 3, 4, 5, 5, 7, 8, 9, 10, 11);
    }

    /** "(whichever it answers, the ROW has none then ..)". */
    private static void rowHasNoneThen() {
        WaitOrWalkOn x = Due.road("s80;h1;p80;");
        judged("it can be", x, -9, 0, 1);
        Due.is("none", x.count(6), 0);
        judged("it can not be", x, 1, 0, 0);
        Due.is("none", x.count(6), 0);
        judged("nothing to judge", x, -9);
        Due.is("none", x.count(6), 0);
    }

    private static void counts(String of, WaitOrWalkOn x, int... due) {
        for (int what = 0; what < due.length; what++) {
            Due.is(of + ", count " + what, x.count(what), due[what]);
        }
    }

    /** "THE IMAGE is taken: how many STOPS": one STOP and no LINES, too. */
    private static void imageOfANewObject() {
        WaitOrWalkOn x = new WaitOrWalkOn();
        Due.is("none yet", x.on(), Due.STATE);
        Due.is("image", x.image(), 1);
        Due.is("all of it", Due.tell(x, "s1;s1;s1;s1;s1;s1;h1;p99;lb101;ln101;le101;e9;m60;"), 13);
        counts("told", x, 7, 3, 7, 99, 9, 60);
        Due.is("on", x.on(), 1);
        counts("as then", x, 1, 0, 400, 80, 2, 30);
        Due.is("no LINE", x.line(0, 0), Due.NOBODY);
        Due.is("no STOP 1", x.stop(1, 0), Due.NOBODY);
    }

    /** "all that is told ..; ON from it all is as then": as often as one likes. */
    private static void imageHoldsAllThatIsTold() {
        WaitOrWalkOn x = Due.road("s11;s12;h13;p140;e5;m16;lt34567;");
        Due.is("image", x.image(), 3);
        for (int i = 0; i < 3; i++) {
            Due.is("set", x.set(0, i), 13);
            Due.is("told more", Due.tell(x, "s9;lb909;e1;m1;p20;"), 5);
            Due.is("on", x.on(), 3);
            counts("as then", x, 3, 1, 36, 140, 5, 16);
            Due.is("LEG", x.stop(1, 0), 11);
            Due.is("LEG", x.stop(2, 0), 12);
            int[] line = {4, 3, 4, 22, 4};
            for (int what = 0; what < 5; what++) {
                Due.is("LINE " + what, x.line(0, what), line[what]);
            }
            for (int minute = 0; minute < 12; minute++) {
                Due.is("CHANCE " + minute, x.chance(0, minute), minute < 3 ? 5 + minute : 0);
            }
        }
    }

    /** "(but the ROW, letters, REFUSALS)": these go on as if there were no image. */
    private static void imageHoldsNoRowLettersRefusals() {
        WaitOrWalkOn x = new WaitOrWalkOn();
        Due.is("a number", x.row(1), 1);
        Due.is("a letter", x.letter('m'), 1);
        Due.is("a refusal", x.set(4, 0), Due.OTHER);
        Due.is("image", x.image(), 1);
        Due.is("a number more", x.row(2), 2);
        Due.is("a letter more", x.letter('5'), 2);
        Due.is("a refusal more", x.set(4, 0), Due.OTHER);
        Due.is("on", x.on(), 1);
        Due.is("numbers", x.count(6), 2);
        Due.is("letters", x.count(7), 2);
        Due.is("refusals", x.count(12), 2);
        Due.is("the last letter", x.letter(';'), 3);
        Due.is("road", x.road(), 1);
        Due.is("LIMIT", x.count(5), 5);
        Due.is("judged", x.judge(), 1);
        Due.is("on", x.on(), 1);
        Due.is("numbers", x.count(6), 0);
        Due.is("letters", x.count(7), 0);
        Due.is("LIMIT as then", x.count(5), 30);
    }

    /** A second image stands for the first; ON takes none away. */
    private static void imageIsTakenAnew() {
        WaitOrWalkOn x = Due.road("s1;");
        Due.is("image", x.image(), 2);
        Due.is("told", Due.tell(x, "s2;lb101;"), 2);
        Due.is("image", x.image(), 3);
        Due.is("told", Due.tell(x, "s3;"), 1);
        Due.is("on", x.on(), 3);
        Due.is("on", x.on(), 3);
        counts("as then", x, 3, 1, 403);
        Due.is("no refusal", x.count(13), 0);
    }
}
