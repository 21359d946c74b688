/** The boundaries of GOERS and of promises 6, 7, 9 to 13, 25 and 28: a function for each sentence. */
public final class GoersEdgesTest {
    private static final int GOER = 0;
    private static final int WALKER = 1;
    private static final int LOOKER = 2;
    private static final int TOLD = 3;
    private static final int RUNNER = 4;
    private static final int LAZY = 5;
    private static final int NEVER = 12;

    /** Walking takes 10, 10 and 1, a bus 2 a LEG: who rides is HOME 5 MINUTES behind its coming, who walks in 21. */
    private static final String LONG_LEGS = "s800;s800;h80;p80;lb2111;";
    /** Walking takes 1, 10 and 1, a bus 1 a LEG: who rides is HOME 3 MINUTES behind its coming, who walks in 12. */
    private static final String SHORT_LEG = "s80;s800;h80;p80;lb1111;";
    /** A CHANCE of 1 for each MINUTE and for NEVER, so that a DRAW is the MINUTE; 1 to ride, 40 to walk. */
    private static final String ALL_ALIKE = "s800;h0;p20;m60;e0;lb11111111111111;";

    public static void main(String[] args) {
        minutesOfKinds();
        whereTheyHalt();
        comesAheadOfATold();
        comesCanNotBe();
        leastTerms();
        noughtByOne();
        goerUpToLimit();
        goerWaitsNoMore();
        walkerInJustThatMinute();
        passedBetweenStops();
        passedAndThereAgain();
        lookerInSightOrFewer();
        lookerWhereItHalts();
        toldUpToFigure();
        toldLooksThen();
        runnerAtTwicePace();
        lazyTwiceFigure();
        lazyAtEachOtherStop();
        lazyAtTheLastOneNot();
        atTheLastStopNobodyWaits();
        soonerInAMinuteOrEarlier();
        rulesOfSeveralTheLeast();
        drawsByHand();
        neverIsLast();
        drawsWrapAround();
        oneAndThirtyNights();
        lotsWithFigure5();
        Due.end();
    }

    private static void home(String why, WaitOrWalkOn x, int kind, int figure, int t, int due) {
        Due.is(why + ": homeAt 0 " + kind + " " + figure + " " + t, x.homeAt(0, kind, figure, t), due);
    }

    private static void fraction(String why, long above, long below, long dueAbove, long dueBelow) {
        Due.isFraction(why, above, below, dueAbove, dueBelow);
    }

    /** "RUN", "1 more than a BUS", "5 more from STOP 0", "half of an EXPRESS's, rounded up"; RUN 1 and 9. */
    private static void minutesOfKinds() {
        String kinds = "bnert";
        int[][] one = {{0, 1, 2, 6}, {0, 2, 4, 12}, {0, -9, 2, 6}, {0, 7, 9, 17}, {0, -9, 2, 6}};
        int[][] nine = {{0, 9, 18, 54}, {0, 10, 20, 60}, {0, -9, 18, 54}, {0, 15, 25, 65}, {0, -9, 10, 30}};
        int[] stops = {0, 1, 2, 6};
        for (int kind = 0; kind < 5; kind++) {
            WaitOrWalkOn x = Due.road("s1;s1;s1;s1;s1;s1;l" + kinds.charAt(kind) + "101;l" + kinds.charAt(kind) + "901;");
            for (int i = 0; i < 4; i++) {
                Due.is("RUN 1 of " + kinds.charAt(kind) + " to " + stops[i], x.there(0, stops[i]), one[kind][i]);
                Due.is("RUN 9 of " + kinds.charAt(kind) + " to " + stops[i], x.there(1, stops[i]), nine[kind][i]);
            }
            Due.is("KIND", x.line(0, 0), kind);
            Due.is("to the last", x.line(1, 4), nine[kind][3]);
        }
        Due.is("half of 8 is 4", Due.road("s1;lt801;").there(0, 1), 4);
        Due.is("half of 9 is 5", Due.road("s1;lt901;").there(0, 1), 5);
        WaitOrWalkOn alone = Due.road("lr901;");
        Due.is("from STOP 0 to itself", alone.there(0, 0), 0);
        Due.is("to the last, which is the first", alone.line(0, 4), 0);
    }

    /** "STOP 0, the last one, and even ones": the last one may be odd, and is so no more with a STOP more. */
    private static void whereTheyHalt() {
        WaitOrWalkOn x = Due.road("le101;lt201;");
        for (int stops = 2; stops <= 7; stops++) {
            Due.is("a STOP more", Due.tell(x, "s1;"), 1);
            for (int stop = 0; stop < stops; stop++) {
                boolean halts = stop % 2 == 0 || stop == stops - 1;
                Due.is("EXPRESS at " + stop + " of " + stops, x.there(0, stop), halts ? stop : -9);
                Due.is("TRAM at " + stop + " of " + stops, x.there(1, stop), halts ? stop : -9);
            }
        }
    }

    /** COMES: "if it has not come ahead of a told one (0, if that is later)"; MINUTES 0 .. 11 and 12: NEVER. */
    private static void comesAheadOfATold() {
        WaitOrWalkOn x = Due.road("lb13100000000002;");
        fraction("in 0", x.comes(0, 0, 0, 0), x.comes(0, 0, 0, 1), 1, 6);
        fraction("in 0, told 1", x.comes(0, 0, 1, 0), x.comes(0, 0, 1, 1), 0, 1);
        fraction("in 11", x.comes(0, 11, 0, 0), x.comes(0, 11, 0, 1), 1, 3);
        fraction("in 11, told 1", x.comes(0, 11, 1, 0), x.comes(0, 11, 1, 1), 2, 5);
        fraction("in 11, told 11", x.comes(0, 11, 11, 0), x.comes(0, 11, 11, 1), 2, 5);
        fraction("in 10, told 11", x.comes(0, 10, 11, 0), x.comes(0, 10, 11, 1), 0, 1);
        fraction("NEVER", x.comes(0, 12, 0, 0), x.comes(0, 12, 0, 1), 1, 2);
        fraction("NEVER, told 11", x.comes(0, 12, 11, 0), x.comes(0, 12, 11, 1), 3, 5);
    }

    /** Promise 9: "0 by 1: it can not have been so". */
    private static void comesCanNotBe() {
        WaitOrWalkOn x = Due.road("lb100000000003;");
        fraction("in 9, told 9", x.comes(0, 9, 9, 0), x.comes(0, 9, 9, 1), 1, 1);
        for (int minute = 0; minute <= NEVER; minute++) {
            fraction("in " + minute + ", told 10", x.comes(0, minute, 10, 0), x.comes(0, minute, 10, 1), 0, 1);
        }
    }

    /** "all by FRACTIONS in least terms". */
    private static void leastTerms() {
        WaitOrWalkOn x = Due.road("s800;s800;h80;p80;lb26006;lb20020000000004;");
        fraction("6 of 12", x.comes(0, 2, 0, 0), x.comes(0, 2, 0, 1), 1, 2);
        fraction("7 and 21 with 6 each", x.mean(0, WALKER, 0, 0), x.mean(0, WALKER, 0, 1), 21, 1);
        fraction("7 and 21 with 6 each", x.mean(0, LOOKER, 0, 0), x.mean(0, LOOKER, 0, 1), 14, 1);
        fraction("2 of 6", x.comes(1, 1, 0, 0), x.comes(1, 1, 0, 1), 1, 3);
        fraction("6 of 6", x.sooner(0, WALKER, 0, 21, 0), x.sooner(0, WALKER, 0, 21, 1), 1, 1);
    }

    /** "(0 by 1)": also of a mean of 0, where HOME is at the only STOP. */
    private static void noughtByOne() {
        WaitOrWalkOn x = Due.road("h0;lb92345;");
        Due.is("walked", x.walked(), 0);
        for (int kind = GOER; kind <= LAZY; kind++) {
            fraction("mean 0", x.mean(0, kind, 12, 0), x.mean(0, kind, 12, 1), 0, 1);
            fraction("at once", x.sooner(0, kind, 12, 0, 0), x.sooner(0, kind, 12, 0, 1), 1, 1);
        }
        fraction("best mean 0", x.bestMean(0, 0, 0, 0), x.bestMean(0, 0, 0, 1), 0, 1);
        fraction("news 0", x.news(0, 0), x.news(0, 1), 0, 1);
    }

    /** "waits at STOP 0 up to MINUTE LIMIT (that one, too), then walks". */
    private static void goerUpToLimit() {
        WaitOrWalkOn x = Due.road(LONG_LEGS + "m5;");
        home("at once", x, GOER, 0, 0, 5);
        home("in LIMIT", x, GOER, 0, 5, 10);
        home("behind LIMIT", x, GOER, 0, 6, 26);
        home("NEVER", x, GOER, 0, NEVER, 26);
        home("FIGURE is nothing to him", x, GOER, 12, 6, 26);
        Due.is("the least LIMIT", x.set(3, 1), 5);
        home("in LIMIT", x, GOER, 0, 1, 6);
        home("behind LIMIT", x, GOER, 0, 2, 22);
        Due.is("the greatest LIMIT", x.set(3, 60), 1);
        home("the last MINUTE", x, GOER, 0, 11, 16);
        home("NEVER", x, GOER, 0, NEVER, 81);
    }

    /** "waiting no more": he rides from a STOP only that he comes to in just that MINUTE. */
    private static void goerWaitsNoMore() {
        WaitOrWalkOn x = Due.road(LONG_LEGS + "m1;e9;");
        home("a MINUTE ahead of him", x, GOER, 0, 8, 22);
        home("just then", x, GOER, 0, 9, 14);
        home("a MINUTE behind him", x, GOER, 0, 10, 22);
    }

    /** "walks at once (and rides only from a STOP that he comes to in just that MINUTE)": from STOP 0 in 0, too. */
    private static void walkerInJustThatMinute() {
        WaitOrWalkOn x = Due.road(LONG_LEGS + "e9;m60;");
        home("STOP 0 in 0", x, WALKER, 12, 0, 5);
        home("STOP 0 in 1", x, WALKER, 12, 1, 21);
        home("a MINUTE ahead of him", x, WALKER, 12, 7, 21);
        home("just then", x, WALKER, 12, 8, 13);
        home("a MINUTE behind him", x, WALKER, 12, 9, 21);
        home("NEVER", x, WALKER, 12, NEVER, 21);
    }

    /** "Who is passed between STOPS is passed." */
    private static void passedBetweenStops() {
        WaitOrWalkOn x = Due.road(LONG_LEGS + "e0;");
        for (int kind : new int[] {WALKER, LOOKER}) {
            for (int t = 1; t <= 7; t++) {
                home("passed", x, kind, 0, t, 21);
            }
        }
    }

    /**
     * "Who is at a STOP where it halts in the MINUTE in which it is there rides": also one who was passed ahead of it
     * and then went faster than the LINE. Walking takes 10, 1, 10 and 1, a bus 4 a LEG.
     */
    private static void passedAndThereAgain() {
        WaitOrWalkOn x = Due.road("s800;s80;s800;h80;p80;e0;lb4111;");
        home("it is at STOP 1 in 6, he in 10; at STOP 2 it in 10, he in 11", x, WALKER, 0, 2, 22);
        home("it is at STOP 1 in 7, he in 10; at STOP 2 both in 11", x, WALKER, 0, 3, 16);
        home("it is at STOP 2 in 12, he in 11", x, WALKER, 0, 4, 22);
        Due.is("he looks", x.set(2, 1), 0);
        home("and sees it there", x, LOOKER, 0, 4, 17);
        home("but not where it is no more", x, LOOKER, 0, 2, 22);
    }

    /** "if the LINE .. is there in SIGHT MINUTES or fewer", "(STOP 0, too)"; SIGHT 0 and 9. */
    private static void lookerInSightOrFewer() {
        WaitOrWalkOn x = Due.road(LONG_LEGS + "e2;");
        home("in SIGHT at STOP 0", x, LOOKER, 0, 2, 7);
        home("fewer at STOP 0", x, LOOKER, 0, 1, 6);
        home("one more at STOP 0", x, LOOKER, 0, 3, 21);
        home("a MINUTE ahead of him", x, LOOKER, 0, 7, 21);
        home("just then", x, LOOKER, 0, 8, 13);
        home("in SIGHT at STOP 1", x, LOOKER, 0, 10, 15);
        home("one more at STOP 1", x, LOOKER, 0, 11, 21);
        Due.is("no SIGHT", x.set(2, 0), 2);
        home("STOP 0 in 0", x, LOOKER, 0, 0, 5);
        home("STOP 0 in 1", x, LOOKER, 0, 1, 21);
        home("just then", x, LOOKER, 0, 8, 13);
        home("a MINUTE behind him", x, LOOKER, 0, 9, 21);
        Due.is("the longest SIGHT", x.set(2, 9), 0);
        home("in SIGHT at STOP 0", x, LOOKER, 0, 9, 14);
        home("one more, but seen from STOP 1", x, LOOKER, 0, 10, 15);
        WaitOrWalkOn y = Due.road("s80;s800;h80;p80;lb9111;e9;");
        home("in SIGHT at STOP 0", y, LOOKER, 0, 9, 28);
        home("one more at STOP 0, and more than that at STOP 1", y, LOOKER, 0, 10, 12);
    }

    /** "if the LINE halts there". */
    private static void lookerWhereItHalts() {
        WaitOrWalkOn x = Due.road("s800;s800;s800;h80;p80;e2;le2111;");
        home("seen at STOP 1, but goes by", x, LOOKER, 0, 8, 31);
        home("seen at STOP 2", x, LOOKER, 0, 11, 31);
        WaitOrWalkOn y = Due.road("s80;s80;s800;h80;p80;e1;le1111;");
        home("in SIGHT at STOP 0", y, LOOKER, 0, 1, 5);
        home("goes by at STOP 1, one more than SIGHT at STOP 2", y, LOOKER, 0, 2, 13);
        Due.is("last but one", Due.tell(y, "s80;"), 1);
        home("NEVER", y, LOOKER, 0, NEVER, 14);
    }

    /** "waits at STOP 0 up to MINUTE FIGURE (that one, too)"; FIGURE 0 and 12. */
    private static void toldUpToFigure() {
        WaitOrWalkOn x = Due.road(LONG_LEGS + "e0;");
        home("in FIGURE", x, TOLD, 3, 3, 8);
        home("behind FIGURE", x, TOLD, 3, 4, 24);
        home("NEVER", x, TOLD, 3, NEVER, 24);
        home("in FIGURE 0", x, TOLD, 0, 0, 5);
        home("behind FIGURE 0", x, TOLD, 0, 1, 21);
        home("the last MINUTE", x, TOLD, 12, 11, 16);
        home("NEVER", x, TOLD, 12, NEVER, 33);
        home("the last MINUTE in FIGURE", x, TOLD, 11, 11, 16);
        home("the last MINUTE behind FIGURE, but just then at STOP 1", x, TOLD, 3, 11, 16);
        home("and not so with FIGURE 10", x, TOLD, 10, 11, 31);
    }

    /** "then goes as a LOOKER (who looks at STOP 0 then)". */
    private static void toldLooksThen() {
        WaitOrWalkOn x = Due.road(LONG_LEGS + "e2;");
        home("in SIGHT from FIGURE on", x, TOLD, 3, 5, 10);
        home("one more", x, TOLD, 3, 6, 24);
        home("in SIGHT at STOP 1", x, TOLD, 1, 9, 14);
        home("the most in SIGHT at STOP 1", x, TOLD, 1, 11, 16);
        home("passed ahead of STOP 1", x, TOLD, 1, 8, 22);
        home("LIMIT is nothing to him", x, TOLD, 12, NEVER, 33);
    }

    /** "as a WALKER at twice PACE": each way by itself rounded up, the way HOME from where he gets off, too. */
    private static void runnerAtTwicePace() {
        WaitOrWalkOn x = Due.road("s161;s160;h161;p80;lb1111;e9;");
        home("2, 1 and 2", x, RUNNER, 0, NEVER, 5);
        home("rides, and runs HOME", x, RUNNER, 0, 0, 4);
        home("just then at STOP 1", x, RUNNER, 0, 1, 5);
        home("looks at nothing", x, RUNNER, 0, 2, 5);
        WaitOrWalkOn y = Due.road("s999;h401;p200;lb9111;");
        home("3 and 2", y, RUNNER, 0, NEVER, 5);
        home("9 and 2", y, RUNNER, 0, 0, 11);
        Due.is("the others walk", y.walked(), 8);
    }

    /** "as a TOLD one with twice FIGURE". */
    private static void lazyTwiceFigure() {
        WaitOrWalkOn x = Due.road(LONG_LEGS + "e0;");
        home("in twice FIGURE", x, LAZY, 2, 4, 9);
        home("behind it", x, LAZY, 2, 5, 27);
        home("FIGURE 0", x, LAZY, 0, 0, 5);
        home("behind FIGURE 0", x, LAZY, 0, 1, 21);
        home("FIGURE 6 reaches all", x, LAZY, 6, 11, 16);
        home("FIGURE 5 does not", x, LAZY, 5, 11, 36);
        home("FIGURE 12", x, LAZY, 12, NEVER, 57);
        Due.is("he looks", x.set(2, 1), 0);
        home("in SIGHT from twice FIGURE on", x, LAZY, 2, 5, 10);
        home("one more", x, LAZY, 2, 6, 27);
        home("in SIGHT from 10 on", x, LAZY, 5, 11, 16);
    }

    /** "at each other STOP waits FIGURE MINUTES (the last of them, too), too, then looks". */
    private static void lazyAtEachOtherStop() {
        WaitOrWalkOn x = Due.road(SHORT_LEG + "e0;");
        home("comes to STOP 1 in 5, it in 6", x, LAZY, 2, 5, 8);
        home("it in 7, the last of the MINUTES", x, LAZY, 2, 6, 9);
        home("it in 8", x, LAZY, 2, 7, 18);
        home("NEVER", x, LAZY, 2, NEVER, 18);
        Due.is("he looks", x.set(2, 1), 0);
        home("it in 8, in SIGHT", x, LAZY, 2, 7, 10);
        home("it in 9, one more", x, LAZY, 2, 8, 18);
        WaitOrWalkOn y = Due.road("s80;s80;s800;h80;p80;le1111;e0;");
        home("waits where it goes by, too", y, LAZY, 1, NEVER, 17);
        home("goes by while he waits, but he is at STOP 2 in its MINUTE", y, LAZY, 1, 3, 7);
        home("is at STOP 2 in the last MINUTE that he waits there", y, LAZY, 1, 4, 8);
        home("and a MINUTE behind it", y, LAZY, 1, 5, 17);
    }

    /** "At the last STOP nobody waits": he comes there and goes HOME. */
    private static void lazyAtTheLastOneNot() {
        WaitOrWalkOn x = Due.road("s80;h80;p80;lb1111;e0;");
        home("waits at STOP 0 alone", x, LAZY, 3, NEVER, 8);
        home("in twice FIGURE", x, LAZY, 3, 6, 8);
        home("behind it", x, LAZY, 3, 7, 8);
        home("longest", x, LAZY, 12, NEVER, 26);
    }

    /** "At the last STOP nobody waits": with one STOP nobody does so at all. */
    private static void atTheLastStopNobodyWaits() {
        WaitOrWalkOn x = Due.road("h161;p80;e9;m60;lb9111;");
        for (int kind = GOER; kind <= LAZY; kind++) {
            for (int t = 0; t <= NEVER; t++) {
                home("one STOP", x, kind, 12, t, kind == RUNNER ? 2 : 3);
            }
            fraction("one STOP", x.mean(0, kind, 12, 0), x.mean(0, kind, 12, 1), kind == RUNNER ? 2 : 3, 1);
        }
    }

    /** SOONER: "how likely he is HOME in a MINUTE or earlier"; MINUTES 0 and 999. */
    private static void soonerInAMinuteOrEarlier() {
        WaitOrWalkOn x = Due.road("s999;s999;s999;s999;s999;s999;h999;p20;m60;lb13102;");
        Due.is("walked", x.walked(), 350);
        fraction("one MINUTE less", x.sooner(0, GOER, 0, 55, 0), x.sooner(0, GOER, 0, 55, 1), 0, 1);
        fraction("just then", x.sooner(0, GOER, 0, 56, 0), x.sooner(0, GOER, 0, 56, 1), 1, 6);
        fraction("ahead of the next", x.sooner(0, GOER, 0, 57, 0), x.sooner(0, GOER, 0, 57, 1), 1, 6);
        fraction("the next", x.sooner(0, GOER, 0, 58, 0), x.sooner(0, GOER, 0, 58, 1), 1, 2);
        fraction("ahead of NEVER", x.sooner(0, GOER, 0, 409, 0), x.sooner(0, GOER, 0, 409, 1), 1, 2);
        fraction("NEVER, too", x.sooner(0, GOER, 0, 410, 0), x.sooner(0, GOER, 0, 410, 1), 1, 1);
        fraction("0", x.sooner(0, GOER, 0, 0, 0), x.sooner(0, GOER, 0, 0, 1), 0, 1);
        fraction("999", x.sooner(0, GOER, 0, 999, 0), x.sooner(0, GOER, 0, 999, 1), 1, 1);
    }

    /** RULES: "FIGURES 0 .. 12 of a TOLD: the one with the least MEAN, of several the least". */
    private static void rulesOfSeveralTheLeast() {
        WaitOrWalkOn x = Due.road("s800;h0;p20;e0;lb10000000000001;lb110;lb101;");
        Due.is("it comes in 11", x.rules(0), 11);
        Due.is("it never comes", x.rules(1), 0);
        Due.is("it is there at once", x.rules(2), 0);
        Due.is("he looks", x.set(2, 9), 0);
        Due.is("seen from 2 on", x.rules(0), 2);
        WaitOrWalkOn alike = Due.road("s80;h0;p20;e0;lb2101;");
        Due.is("two who are alike: 4 at once or 3 and 5", alike.rules(0), 0);
        fraction("FIGURE 0", alike.mean(0, TOLD, 0, 0), alike.mean(0, TOLD, 0, 1), 4, 1);
        fraction("FIGURE 1", alike.mean(0, TOLD, 1, 0), alike.mean(0, TOLD, 1, 1), 4, 1);
        Due.is("with one STOP all are alike", Due.road("lb20001;").rules(0), 0);
    }

    /** LOTS: the seed 0 draws 9, 12, 11, 6 and 0 below 13. */
    private static void drawsByHand() {
        WaitOrWalkOn x = Due.road(ALL_ALIKE);
        int[] due = {10, 110, 122, 129, 130};
        for (int n = 1; n <= 5; n++) {
            Due.is("lots of seed 0, " + n, x.lots(0, GOER, n, 0), due[n - 1]);
        }
    }

    /** "by MINUTES, NEVER last": below 2 the seed 0 draws 1, 1, 0, 1 and 1. */
    private static void neverIsLast() {
        WaitOrWalkOn x = Due.road("s800;h0;p20;m60;lb111;lb101;lb110;");
        int[] due = {100, 200, 201, 301, 401};
        for (int n = 1; n <= 5; n++) {
            Due.is("lots of two, " + n, x.lots(0, GOER, n, 0), due[n - 1]);
        }
        Due.is("a DRAW below 1", x.lots(1, GOER, 30, 5), 30);
        Due.is("NEVER alone", x.lots(2, GOER, 30, 5), 3000);
    }

    /** "z times 1664525 and 1013904223 (an int)", "z without its sign's bit": the greatest seed is as -1 then. */
    private static void drawsWrapAround() {
        WaitOrWalkOn x = Due.road(ALL_ALIKE);
        int[] due = {8, 18, 28, 39, 41};
        for (int n = 1; n <= 5; n++) {
            Due.is("lots of seed -1, " + n, x.lots(0, GOER, n, -1), due[n - 1]);
            Due.is("lots of the greatest seed, " + n, x.lots(0, GOER, n, Integer.MAX_VALUE), due[n - 1]);
            Due.is("lots of the least seed, " + n, x.lots(0, GOER, n, Integer.MIN_VALUE), x.lots(0, GOER, n, 0));
        }
        int[] one = {12, 14, 22, 24, 29};
        for (int n = 1; n <= 5; n++) {
            Due.is("lots of seed 1, " + n, x.lots(0, GOER, n, 1), one[n - 1]);
        }
    }

    /** "n NIGHTS (1 .. 30)": each seed begins anew. */
    private static void oneAndThirtyNights() {
        WaitOrWalkOn x = Due.road("s800;h0;p20;m60;lb10004;");
        Due.is("1", x.lots(0, GOER, 1, 77), 3);
        Due.is("30", x.lots(0, GOER, 30, 77), 90);
        Due.is("0", x.lots(0, GOER, 0, 77), Due.BELOW);
        Due.is("31", x.lots(0, GOER, 31, 77), Due.ROOM);
    }

    /** Promise 28: "(FIGURE 5)", which is 10 MINUTES of a LAZY one. */
    private static void lotsWithFigure5() {
        WaitOrWalkOn x = Due.road("s800;h0;p20;m1;e0;lb1000000900;lb1000000090;");
        Due.is("in 5 a TOLD one rides", x.lots(0, TOLD, 3, 4), 18);
        Due.is("in 6 no more", x.lots(1, TOLD, 3, 4), 135);
        WaitOrWalkOn y = Due.road("s800;h0;p20;m1;e0;lb10000000000090;lb10000000000009;");
        Due.is("in 10 a LAZY one rides", y.lots(0, LAZY, 3, 4), 33);
        Due.is("in 11 no more", y.lots(1, LAZY, 3, 4), 150);
    }
}
