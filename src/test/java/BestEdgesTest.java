/** The boundaries of BEST, PATIENCE, NEWS, TWO LINES and LET GO, promises 14 to 20: a function for each sentence. */
public final class BestEdgesTest {
    public static void main(String[] args) {
        walkAtTheLastStopAlways();
        walkInMinute60Always();
        waitAlsoAlike();
        ridingNow();
        canNotBeAnyMore();
        goesByWhereItDoesNotHalt();
        passedBetweenStops();
        passedWalksAllTheRest();
        waitingInto60();
        inMinute60JustThen();
        comingInJust60();
        comingLaterThan60();
        oneStop();
        eachLineBehindEachChange();
        patienceFirstMinute();
        patienceNone();
        newsOfNothing();
        newsOfWalking();
        bothAtOnce();
        bothNever();
        aheadOfAMinute();
        letGoAtTheEnds();
        oneLineTwice();
        oneStopNobodyWaits();
        Due.end();
    }

    private static void best(String why, WaitOrWalkOn x, int stop, int minute, int choice, long above, long below) {
        String call = why + ", best at " + stop + " in " + minute;
        Due.is(call, x.best(0, stop, minute), choice);
        Due.isFraction(call, x.bestMean(0, stop, minute, 0), x.bestMean(0, stop, minute, 1), above, below);
    }

    /** "1 walk (at the last STOP .. always)": in MINUTES 0 and 60, and while it is there, too. */
    private static void walkAtTheLastStopAlways() {
        WaitOrWalkOn x = Due.road("s800;s800;h160;p80;lb2100001;");
        for (int minute = 0; minute <= 60; minute++) {
            best("the last STOP", x, 2, minute, 1, minute + 2, 1);
        }
    }

    /** "1 walk (.. in MINUTE 60 always)": at each STOP. */
    private static void walkInMinute60Always() {
        WaitOrWalkOn x = Due.road("s800;s800;h160;p80;lb2100001;");
        int[] due = {82, 72, 62};
        for (int stop = 0; stop <= 2; stop++) {
            best("MINUTE 60", x, stop, 60, 1, due[stop], 1);
        }
    }

    /** "0 wait (also alike)": walking 10 and 10, riding 2 and 10; it comes in 6 or never, with one CHANCE each. */
    private static void waitAlsoAlike() {
        WaitOrWalkOn x = Due.road("s800;h800;p80;lb210000001;");
        best("walking 21, waiting 22 in the mean", x, 0, 1, 1, 21, 1);
        best("22 each", x, 0, 2, 0, 22, 1);
        best("walking 23, waiting 22", x, 0, 3, 0, 22, 1);
        best("it is not there in 6: never", x, 0, 6, 1, 22, 1);
        best("never", x, 0, 7, 1, 27, 1);
    }

    /** "(riding now, if it is there now)". */
    private static void ridingNow() {
        WaitOrWalkOn x = Due.road("s800;s800;h80;p80;lb2000009;");
        best("it is there", x, 0, 4, 0, 9, 1);
        best("it is there", x, 1, 6, 0, 9, 1);
        best("it is there, at the last STOP one walks", x, 2, 8, 1, 9, 1);
        best("it will be there", x, 0, 0, 0, 9, 1);
        best("it will be there", x, 1, 0, 0, 9, 1);
        best("ahead of it", x, 2, 0, 1, 1, 1);
    }

    /** "-9 it can not be so any more (it must have been there)"; with NEVER it always can. */
    private static void canNotBeAnyMore() {
        WaitOrWalkOn x = Due.road("s800;s800;h80;p80;lb20000000000004;");
        int[] there = {11, 13, 15};
        for (int stop = 0; stop <= 2; stop++) {
            Due.is("just there", x.best(0, stop, there[stop]), stop == 2 ? 1 : 0);
            for (int minute = there[stop] + 1; minute <= 60; minute++) {
                best("it has been there", x, stop, minute, -9, 0, 1);
            }
        }
        WaitOrWalkOn y = Due.road("s800;s800;h80;p80;lb21000000000009;");
        for (int stop = 0; stop <= 2; stop++) {
            Due.is("NEVER can be", y.best(0, stop, 60), 1);
        }
        WaitOrWalkOn never = Due.road("s800;h80;p80;lb210;");
        best("NEVER alone", never, 0, 0, 1, 11, 1);
        best("NEVER alone", never, 0, 59, 1, 70, 1);
    }

    /** "who is passed .. where it does not halt, walks all the rest". */
    private static void goesByWhereItDoesNotHalt() {
        WaitOrWalkOn x = Due.road("s80;s80;s800;h80;p80;le1009;");
        // In 1 it is at STOP 0, in 2 it goes by at STOP 1, in 3 it is at STOP 2, in 4 at the last one.
        best("he waits for it", x, 0, 0, 0, 5, 1);
        best("it goes by just now", x, 1, 2, 0, 14, 1);
        best("it has not gone by yet: on to STOP 2", x, 1, 1, 1, 5, 1);
        best("it has gone by", x, 1, 3, -9, 0, 1);
        best("it is there", x, 2, 3, 0, 5, 1);
    }

    /** "who is passed, between STOPS .., walks all the rest". */
    private static void passedBetweenStops() {
        WaitOrWalkOn x = Due.road("s800;s800;h80;p80;lb29000001;");
        // In 5 or never, 1 to 9: walking from 0 on he is passed, and is home in 21 either way.
        best("passed", x, 0, 0, 1, 21, 1);
        WaitOrWalkOn y = Due.road("s800;s800;h80;p80;lb29000000001;");
        // In 8 it is at STOP 1 in 10, just as he: 13 or 21.
        best("not passed: 202 by 10", y, 0, 0, 1, 101, 5);
        best("passed a MINUTE later", y, 0, 1, 1, 22, 1);
    }

    /** "walks all the rest": though he would be at STOP 2 in just its MINUTE, as the LINE takes 4 for a LEG of 1. */
    private static void passedWalksAllTheRest() {
        WaitOrWalkOn x = Due.road("s800;s80;s800;h80;p80;lb490001;");
        // It comes in 3 or never, 1 to 9: waiting 16 or 25, walking 22, for it passes him in 7.
        best("he walks", x, 0, 0, 1, 22, 1);
        // Who stands at STOP 1 in 7 is there just then, and in 8 knows that it never comes.
        best("it is there, or never", x, 1, 7, 1, 16 + 9 * 19, 10);
        best("never", x, 1, 8, 1, 20, 1);
    }

    /** "one waits a MINUTE more": also in 59, if it may be there in 60. */
    private static void waitingInto60() {
        WaitOrWalkOn x = Due.road("s1;s1;s1;s1;s1;s999;h0;p20;lr99000001;");
        best("70 or 110: 1060 by 10", x, 5, 59, 0, 106, 1);
        WaitOrWalkOn y = Due.road("s1;s1;s1;s1;s1;s999;h0;p20;lr990000001;");
        best("it would be there in 61", y, 5, 59, 1, 109, 1);
    }

    /** "so does who is at a STOP in MINUTE 60, unless it is there just then". */
    private static void inMinute60JustThen() {
        WaitOrWalkOn x = Due.road("s1;s1;s1;s1;s1;s999;h0;p20;lr90000001;");
        best("just then", x, 5, 60, 1, 70, 1);
        WaitOrWalkOn y = Due.road("s1;s1;s1;s1;s1;s999;h0;p20;lr900000001;");
        best("a MINUTE too late", y, 5, 60, 1, 110, 1);
        WaitOrWalkOn z = Due.road("s1;s1;s1;s1;s1;s999;h0;p20;lr9000001;");
        best("a MINUTE ahead", z, 5, 60, -9, 0, 1);
    }

    /** "who comes to one later" walks, who comes in 60 does not yet: in 49 he walks 11 MINUTES, it is there in 60. */
    private static void comingInJust60() {
        WaitOrWalkOn x = Due.road("s1;s1;s1;s1;s220;s999;h0;p20;ln9900000000001;");
        Due.is("to STOP 5", x.there(0, 5), 50);
        best("on to STOP 5: 70 or 110", x, 4, 49, 1, 106, 1);
    }

    /** "and who comes to one later": though it would be there in just that MINUTE. */
    private static void comingLaterThan60() {
        WaitOrWalkOn x = Due.road("s1;s1;s1;s1;s220;s999;h0;p20;ln99000000000001;");
        best("he waits: 71 or 112", x, 4, 50, 0, 71 + 9 * 112, 10);
    }

    /** With one STOP, which is the last, one walks; it can not be so any more behind the last CHANCE. */
    private static void oneStop() {
        WaitOrWalkOn x = Due.road("h160;p80;lb2009;");
        best("in 0", x, 0, 0, 1, 2, 1);
        best("while it is there", x, 0, 1, 1, 3, 1);
        best("behind it", x, 0, 2, -9, 0, 1);
        Due.is("patience", x.patience(0), 0);
    }

    /** What is best is that of the ROAD as it is now, whichever LINE is asked for first behind a change of it. */
    private static void eachLineBehindEachChange() {
        for (int line = 0; line < 3; line++) {
            WaitOrWalkOn x = Due.road("s999;h200;p20;lb90000000000009;lb9009;lb909;");
            long first = x.bestMean(line, 0, 0, 0);
            Due.is("surely, line " + line, first, new int[] {30, 20, 19}[line]);
            Due.is("image", x.image(), 2);
            Due.is("set", x.set(0, 400), 200);
            Due.is("behind set, line " + line, x.bestMean(line, 0, 0, 0), first + 10);
            Due.is("road", Due.tell(x, "h600;"), 1);
            Due.is("behind road, line " + line, x.bestMean(line, 0, 0, 0), first + 20);
            Due.is("on", x.on(), 2);
            Due.is("behind on, line " + line, x.bestMean(line, 0, 0, 0), first);
        }
    }

    /** PATIENCE: "the first MINUTE (0 .. 59) in which it is BEST to walk from STOP 0". */
    private static void patienceFirstMinute() {
        Due.is("at once", Due.road("s80;h0;p80;lb29001;").patience(0), 0);
        Due.is("up to the last CHANCE", Due.road("s999;h0;p20;lb11000000000009;").patience(0), 11);
        Due.is("up to the only CHANCE", Due.road("s999;h0;p20;lb110009;").patience(0), 3);
        // It comes in 0 or 6: in 0, if it is not there, walking is best; in 2 and later waiting would be.
        Due.is("not the last such MINUTE", Due.road("s800;h800;p80;lb211000001;").patience(0), 0);
    }

    /** "-9 none (or it can not be so by then)". */
    private static void patienceNone() {
        Due.is("it is there at once", Due.road("s999;h0;p20;lb109;").patience(0), -9);
        Due.is("it surely comes in 11", Due.road("s999;h0;p20;lb10000000000009;").patience(0), -9);
        WaitOrWalkOn x = Due.road("s999;h0;p20;lb10000000000009;");
        Due.is("it can be in 11", x.best(0, 0, 11), 0);
        Due.is("and not in 12", x.best(0, 0, 12), -9);
    }

    /** NEWS: nothing to be told of what is sure. */
    private static void newsOfNothing() {
        for (String line : new String[] {"lb109;", "lb190;", "lb10000000000009;"}) {
            WaitOrWalkOn x = Due.road("s800;h0;p80;" + line);
            Due.isFraction("news of " + line, x.news(0, 0), x.news(0, 1), 0, 1);
        }
    }

    /** "(and then waits at STOP 0, or walks all the way, the sooner)". */
    private static void newsOfWalking() {
        // Walking 10, riding 1. It comes in 8 or in 10: told of that, he is home in 9 or, walking, in 10.
        WaitOrWalkOn x = Due.road("s800;h0;p80;lb1000000000101;");
        best("9 or 11", x, 0, 0, 0, 10, 1);
        Due.isFraction("9 or 10", x.news(0, 0), x.news(0, 1), 1, 2);
        // In 0 or never: by BEST 1 or 10, told just so.
        WaitOrWalkOn y = Due.road("s800;h0;p80;lb111;");
        best("1 or 10", y, 0, 0, 1, 11, 2);
        Due.isFraction("nothing gained", y.news(0, 0), y.news(0, 1), 0, 1);
    }

    private static void let(String why, WaitOrWalkOn x, int line, int other, int minute, long above, long below) {
        String call = why + ", let " + line + " " + other + " " + minute;
        Due.isFraction(call, x.letMean(line, other, minute, 0), x.letMean(line, other, minute, 1), above, below);
    }

    /** "(both at once: the one that is sooner at the last STOP)", whichever is named first. */
    private static void bothAtOnce() {
        WaitOrWalkOn x = Due.road("s999;h0;p20;lb30000000000001;lb90000000000001;");
        Due.isFraction("both in 11", x.both(0, 1, 0), x.both(0, 1, 1), 14, 1);
        Due.isFraction("both in 11", x.both(1, 0, 0), x.both(1, 0, 1), 14, 1);
        let("the second in its MINUTE is taken still", x, 1, 0, 11, 14, 1);
        let("and behind it not", x, 1, 0, 12, 20, 1);
    }

    /** "both NEVER: one walks at MINUTE LIMIT"; LIMIT 1 and 60. */
    private static void bothNever() {
        WaitOrWalkOn x = Due.road("s999;h0;p20;m1;lb110;lb110;lb109;");
        Due.isFraction("LIMIT 1", x.both(0, 1, 0), x.both(0, 1, 1), 51, 1);
        Due.is("LIMIT 60", x.set(3, 60), 1);
        Due.isFraction("LIMIT 60", x.both(0, 1, 0), x.both(0, 1, 1), 110, 1);
        Due.isFraction("one of them comes", x.both(0, 2, 0), x.both(0, 2, 1), 1, 1);
        Due.isFraction("one of them comes", x.both(2, 0, 0), x.both(2, 0, 1), 1, 1);
        let("but is let go by", x, 0, 2, 1, 110, 1);
        let("and is not", x, 0, 2, 0, 1, 1);
    }

    /** "the MINUTE (0 .. 12) ahead of which one lets the second LINE go by": in that MINUTE no more. */
    private static void aheadOfAMinute() {
        WaitOrWalkOn x = Due.road("s999;h0;p20;lb10000000000001;lb900001;");
        for (int minute = 0; minute <= 12; minute++) {
            let("the second comes in 3, the first in 11", x, 0, 1, minute, 12, 1);
        }
        WaitOrWalkOn y = Due.road("s999;h0;p20;lb10000000000001;lb800001;");
        for (int minute = 0; minute <= 3; minute++) {
            let("11 with the second", y, 0, 1, minute, 11, 1);
        }
        for (int minute = 4; minute <= 12; minute++) {
            let("12 with the first", y, 0, 1, minute, 12, 1);
        }
        Due.is("none is let go by", y.letGo(0, 1), 0);
    }

    /** "with the least MEAN, of several the first": 0, 1 and 12. */
    private static void letGoAtTheEnds() {
        Due.is("all alike", Due.road("s999;h0;p20;lb10000000000001;lb900001;").letGo(0, 1), 0);
        Due.is("the slow one in 0", Due.road("s999;h0;p20;lb1001;lb901;").letGo(0, 1), 1);
        WaitOrWalkOn x = Due.road("s20;h0;p20;m1;lb110;lb90000000000001;");
        // The first never comes, the second is home in 20; who lets it go by has gone home by LIMIT in 2.
        Due.is("the last CHANCE, too", x.letGo(0, 1), 12);
        let("it is taken", x, 0, 1, 11, 20, 1);
        let("it is let go by", x, 0, 1, 12, 2, 1);
    }

    /** "-1 (one twice, too)". */
    private static void oneLineTwice() {
        WaitOrWalkOn x = Due.road("s999;lb101;lb101;");
        for (int line = 0; line < 2; line++) {
            Due.is("both", x.both(line, line, 0), Due.asLong(Due.NOBODY));
            Due.is("let go", x.letGo(line, line), Due.NOBODY);
            Due.is("let mean", x.letMean(line, line, 0, 0), Due.asLong(Due.NOBODY));
        }
        Due.is("refused -1", x.count(11), 6);
    }

    /** "At the last STOP nobody waits": for two LINES neither. */
    private static void oneStopNobodyWaits() {
        WaitOrWalkOn x = Due.road("h160;p80;lb2009;lb910009;");
        Due.isFraction("both", x.both(0, 1, 0), x.both(0, 1, 1), 2, 1);
        for (int minute = 0; minute <= 12; minute++) {
            let("one STOP", x, 0, 1, minute, 2, 1);
        }
        Due.is("let go", x.letGo(0, 1), 0);
    }
}
