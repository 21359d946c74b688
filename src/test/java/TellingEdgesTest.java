import java.util.Random;
import java.util.regex.Matcher;
import java.util.regex.Pattern;

/** The boundaries of "Terms" up to A ROAD, and of promises 1 to 5, 8, 11 and 31: a function for each sentence. */
public final class TellingEdgesTest {
    private static final Pattern ROAD =
        Pattern.compile("(s[0-9]{1,3};|h[0-9]{1,3};|p[0-9]{2,3};|l[bnert][0-9]{3,14};|e[0-9];|m[0-9]{1,2};)+");
    private static final String[] TEXTS = {"s1;h22;p100;lb10123;e4;m60;", "lt99000000000001;s999;s12;h0;",
        "s1;s1;s1;s1;s1;s1;ln119;le102;lr109;", "p20;p200;m1;m07;e0;h999;", "lb11111111111111;lb19000000000000;"};

    public static void main(String[] args) {
        oneStopAtFirst();
        noLinesAtFirst();
        sevenStopsAtMost();
        threeLinesAtMost();
        ranges();
        digits();
        runChancesAndNever();
        oneOfTheseAboveNothing();
        oneToTwelveChances();
        waysAreRoundedUp();
        atLeastOneStatement();
        ninetySixLettersAtMost();
        everyLetterBegins();
        firstKindGoesAhead();
        behindAllAheadOfIt();
        withAFaultNothing();
        lettersAreNoMore();
        whatItWas();
        faultsOfManyTexts();
        Due.end();
    }

    private static void counts(String of, WaitOrWalkOn x, int... due) {
        for (int what = 0; what < due.length; what++) {
            Due.is(of + ", count " + what, x.count(what), due[what]);
        }
    }

    private static void told(String text, int due) {
        Due.is("road " + text, Due.tell(new WaitOrWalkOn(), text), due);
    }

    /** "STOPS 0 .. (one at first ..)", "HOME .. 400 at first", "80 at first", "2 at first", "30 at first". */
    private static void oneStopAtFirst() {
        WaitOrWalkOn x = new WaitOrWalkOn();
        counts("at first", x, 1, 0, 400, 80, 2, 30, 0, 0);
        Due.is("the LEG of STOP 0", x.stop(0, 0), 0);
        Due.is("MINUTES from itself", x.stop(0, 1), 0);
        Due.is("MINUTES HOME", x.stop(0, 2), 5);
        Due.is("no STOP 1", x.stop(1, 0), Due.NOBODY);
        Due.is("walked", x.walked(), 5);
    }

    /** "no LINES": not the first one either. */
    private static void noLinesAtFirst() {
        WaitOrWalkOn x = new WaitOrWalkOn();
        Due.is("line", x.line(0, 0), Due.NOBODY);
        Due.is("chance", x.chance(0, 0), Due.NOBODY);
        Due.is("there", x.there(0, 0), Due.NOBODY);
        Due.is("rules", x.rules(0), Due.NOBODY);
        Due.is("patience", x.patience(0), Due.NOBODY);
        Due.is("refused -1", x.count(11), 5);
    }

    /** "7 at most", "no room for more": told one by one, all at once, in two texts, behind an image. */
    private static void sevenStopsAtMost() {
        WaitOrWalkOn x = new WaitOrWalkOn();
        for (int stops = 2; stops <= 7; stops++) {
            Due.is("a STOP more", Due.tell(x, "s" + stops + ";"), 1);
            Due.is("STOPS", x.count(0), stops);
        }
        Due.is("no eighth", Due.tell(x, "s8;"), -2000);
        Due.is("nor behind another statement", Due.tell(x, "h1;s8;"), -2003);
        Due.is("the seventh", x.stop(6, 0), 7);
        Due.is("no eighth", x.stop(7, 0), Due.NOBODY);
        counts("full", x, 7, 0, 427);
        told("s1;s1;s1;s1;s1;s1;", 6);
        told("s1;s1;s1;s1;s1;s1;s1;", -2018);
        WaitOrWalkOn half = Due.road("s1;s1;s1;");
        Due.is("an image", half.image(), 4);
        Due.is("one too many", Due.tell(half, "s1;s1;s1;s1;"), -2009);
        Due.is("just as many", Due.tell(half, "s1;s1;s1;"), 3);
        Due.is("on", half.on(), 4);
        Due.is("room as then", Due.tell(half, "s1;s1;s1;"), 3);
        Due.is("no more than then", Due.tell(half, "s1;"), -2000);
    }

    /** "LINES 0 .. 2 as they come (3 at most)". */
    private static void threeLinesAtMost() {
        WaitOrWalkOn x = new WaitOrWalkOn();
        String kinds = "tre";
        int[] due = {4, 3, 2};
        for (int line = 0; line < 3; line++) {
            Due.is("a LINE more", Due.tell(x, "l" + kinds.charAt(line) + (line + 1) + "01;"), 1);
            Due.is("LINES", x.count(1), line + 1);
        }
        Due.is("no fourth", Due.tell(x, "lb101;"), -2000);
        for (int line = 0; line < 3; line++) {
            Due.is("KIND as they come", x.line(line, 0), due[line]);
            Due.is("RUN as they come", x.line(line, 1), line + 1);
        }
        Due.is("no fourth", x.line(3, 0), Due.NOBODY);
        told("lb101;lb101;lb101;", 3);
        told("lb101;lb101;lb101;lb101;", -2018);
        WaitOrWalkOn one = Due.road("lb101;");
        Due.is("an image", one.image(), 1);
        Due.is("one too many", Due.tell(one, "ln101;ln101;ln101;"), -2012);
        Due.is("just as many", Due.tell(one, "ln101;ln101;"), 2);
        Due.is("on", one.on(), 1);
        Due.is("LINES as then", one.count(1), 1);
        Due.is("no such LINE then", one.line(1, 0), Due.NOBODY);
        Due.is("room as then", Due.tell(one, "le101;le101;"), 2);
        Due.is("the new one", one.line(1, 0), 2);
    }

    /** A number told and what a count is behind it; a number out of range is a FAULT of kind 2. */
    private static void range(char letter, int what, String taken, int due) {
        WaitOrWalkOn x = new WaitOrWalkOn();
        Due.is("taken " + letter + taken, Due.tell(x, letter + taken + ";"), 1);
        Due.is("count behind " + letter + taken, x.count(what), due);
    }

    /** "LEG of YARDS (1 .. 999)", "HOME (0 .. 999)", "PACE (20 .. 200)", "SIGHT (0 .. 9)", "LIMIT (1 .. 60)". */
    private static void ranges() {
        told("s0;", -2000);
        range('s', 2, "1", 401);
        range('s', 2, "999", 1399);
        range('h', 2, "0", 0);
        range('h', 2, "999", 999);
        told("p19;", -2000);
        range('p', 3, "20", 20);
        range('p', 3, "200", 200);
        told("p201;", -2000);
        told("p999;", -2000);
        range('e', 4, "0", 0);
        range('e', 4, "9", 9);
        told("m0;", -2000);
        range('m', 5, "1", 1);
        range('m', 5, "60", 60);
        told("m61;", -2000);
        told("m99;", -2000);
    }

    /** "(1 to 3 digits)", "(2 or 3 digits)", "(a digit)", "(1 or 2 digits)"; "Numbers may begin with 0". */
    private static void digits() {
        told("s;", -1001);
        told("s1000;", -1004);
        told("s0001;", -1004);
        told("s000;", -2000);
        range('s', 2, "01", 401);
        range('s', 2, "001", 401);
        told("h;", -1001);
        told("h0000;", -1004);
        range('h', 2, "00", 0);
        range('h', 2, "000", 0);
        range('h', 2, "007", 7);
        told("p;", -1001);
        told("p9;", -1002);
        told("p0020;", -1004);
        told("p00;", -2000);
        range('p', 3, "020", 20);
        range('p', 3, "099", 99);
        told("e;", -1001);
        told("e00;", -1002);
        told("m;", -1001);
        told("m001;", -1003);
        told("m00;", -2000);
        range('m', 5, "01", 1);
    }

    /** "RUN (1 .. 9), CHANCES (0 .. 9) .., and NEVER (0 .. 9)"; of each the least and the most. */
    private static void runChancesAndNever() {
        told("lb099;", -2000);
        for (int run = 1; run <= 9; run += 8) {
            for (int never = 0; never <= 9; never += 9) {
                WaitOrWalkOn x = Due.road("lb" + run + never + "909;");
                Due.is("RUN", x.line(0, 1), run);
                Due.is("NEVER", x.line(0, 2), never);
                Due.is("all", x.line(0, 3), never + 18);
                Due.is("CHANCE 9", x.chance(0, 0), 9);
                Due.is("CHANCE 0", x.chance(0, 1), 0);
            }
        }
        Due.is("all of the most", Due.road("lb19999999999999;").line(0, 3), 117);
    }

    /** "one of these above 0": NEVER alone will do, and so will the first or the last CHANCE alone. */
    private static void oneOfTheseAboveNothing() {
        told("lb100;", -2000);
        told("lb10000000000000;", -2000);
        told("lb110;", 1);
        told("lb101;", 1);
        told("lb10000000000001;", 1);
        told("lb11000000000000;", 1);
        Due.is("NEVER alone", Due.road("lb110;").line(0, 3), 1);
    }

    /** "then 1 to 12 digits: CHANCES .. (the others 0)", "a thirteenth CHANCE is one". */
    private static void oneToTwelveChances() {
        told("lb1;", -1003);
        told("lb11;", -1004);
        told("lb1111111111111111;", -1016);
        told("lb111111111111111;", -1016);
        told("lb111111111111111", -1016);
        WaitOrWalkOn x = Due.road("lb90987654321987;lb901;");
        int[] twelve = {9, 8, 7, 6, 5, 4, 3, 2, 1, 9, 8, 7};
        for (int minute = 0; minute < 12; minute++) {
            Due.is("CHANCE " + minute + " of twelve", x.chance(0, minute), twelve[minute]);
            Due.is("CHANCE " + minute + " of one", x.chance(1, minute), minute == 0 ? 1 : 0);
        }
        Due.is("no thirteenth", x.chance(0, 12), Due.ROOM);
    }

    /** "a way of so many YARDS takes these by PACE MINUTES, rounded up", and LEG by LEG. */
    private static void waysAreRoundedUp() {
        int[][] due = {{0, 20, 0}, {1, 20, 1}, {20, 20, 1}, {21, 20, 2}, {999, 20, 50}, {1, 200, 1}, {200, 200, 1},
            {201, 200, 2}, {999, 200, 5}, {79, 80, 1}, {80, 80, 1}, {81, 80, 2}};
        for (int[] row : due) {
            WaitOrWalkOn x = Due.road("h" + row[0] + ";p" + row[1] + ";");
            Due.is(row[0] + " YARDS at " + row[1], x.walked(), row[2]);
        }
        WaitOrWalkOn x = Due.road("s1;s1;s1;s1;s1;s1;h1;p200;");
        Due.is("seven ways of a YARD", x.walked(), 7);
        for (int stop = 0; stop < 7; stop++) {
            Due.is("from STOP 0", x.stop(stop, 1), stop);
            Due.is("HOME", x.stop(stop, 2), 7 - stop);
        }
        Due.is("YARDS", x.count(2), 7);
        WaitOrWalkOn far = Due.road("s999;s999;s999;s999;s999;s999;h999;p20;");
        Due.is("the longest way", far.walked(), 350);
        Due.is("YARDS", far.count(2), 6993);
    }

    /** "At least one STATEMENT." */
    private static void atLeastOneStatement() {
        told("", -1000);
        told(";", -1000);
        told("m9;", 1);
        told("m9;;", -1003);
    }

    /** "96 at most": a ROAD of just so many, and one that lacks its end. */
    private static void ninetySixLettersAtMost() {
        StringBuilder text = new StringBuilder();
        for (int i = 0; i < 31; i++) {
            text.append("m1;");
        }
        told(text + "m2;", 32);
        told(text + "m22", -1096);
        told(text + "m2", -1095);
        told(text + "m0;", -2093);
        told(text + "x", -1093);
    }

    /** A letter is 0 .. 255; with but six of them a STATEMENT begins. */
    private static void everyLetterBegins() {
        for (int c = 0; c <= 255; c++) {
            WaitOrWalkOn x = new WaitOrWalkOn();
            Due.is("letter " + c, x.letter(c), 1);
            Due.is("road of letter " + c, x.road(), "shplem".indexOf(c) >= 0 ? -1001 : -1000);
            Due.is("letter", x.letter('l'), 1);
            Due.is("letter", x.letter(c), 2);
            Due.is("road of l and letter " + c, x.road(), "bnert".indexOf(c) >= 0 ? -1002 : -1001);
        }
    }

    /** "kind 1 ..; else kind 2": also where the one of kind 2 stands ahead of it. */
    private static void firstKindGoesAhead() {
        told("s0;x", -1003);
        told("s0;s", -1004);
        told("p19;m00;e", -1009);
        told("lb000;lb1", -1009);
        told("s0;s1;", -2000);
        told("s1;s0;s0;", -2003);
    }

    /** "the first STATEMENT that, behind all ahead of it in the text, is not as it must be". */
    private static void behindAllAheadOfIt() {
        WaitOrWalkOn x = Due.road("s1;s1;s1;s1;");
        Due.is("two more have room", Due.tell(x, "s1;s1;s1;"), -2006);
        Due.is("a number out of range goes ahead", Due.tell(x, "s1;s1;p10;s1;"), -2006);
        Due.is("and no room ahead of that", Due.tell(x, "s1;s1;s1;p10;"), -2006);
        Due.is("a LEG of 0 where there is no room", Due.tell(x, "s1;s1;s0;"), -2006);
        Due.is("the LINES have their own room", Due.tell(x, "lb101;lb101;lb101;s1;s1;lb101;"), -2024);
    }

    /** "Without FAULT all of it comes, with one nothing." */
    private static void withAFaultNothing() {
        String all = "s7;h8;p99;lt5512;e9;m59;";
        for (String end : new String[] {"s0;", "x", "s", "lb000;", "p201;"}) {
            WaitOrWalkOn x = new WaitOrWalkOn();
            int due = "xs".contains(end) ? -1000 - all.length() - (end.equals("s") ? 1 : 0) : -2000 - all.length();
            Due.is("fault " + end, Due.tell(x, all + end), due);
            counts("nothing comes with " + end, x, 1, 0, 400, 80, 2, 30, 0, 0);
        }
        WaitOrWalkOn y = Due.road(all);
        counts("all of it comes", y, 2, 1, 15, 99, 9, 59, 0, 0);
    }

    /** "and are no more (with a FAULT neither)": what is told next begins anew. */
    private static void lettersAreNoMore() {
        WaitOrWalkOn x = new WaitOrWalkOn();
        Due.is("it lacks its end", Due.tell(x, "m5"), -1002);
        Due.is("no letters", x.count(7), 0);
        Due.is("the end alone", Due.tell(x, ";"), -1000);
        Due.is("no room", Due.tell(x, "m0;"), -2000);
        Due.is("no letters", x.count(7), 0);
        Due.is("all of it", Due.tell(x, "m6;"), 1);
        Due.is("no letters", x.count(7), 0);
        Due.is("nothing told", x.road(), -1000);
        Due.is("the LIMIT", x.count(5), 6);
    }

    /** Promise 8: "becomes v: what it was", of what is told, too; from the least to the most. */
    private static void whatItWas() {
        WaitOrWalkOn x = Due.road("h7;p70;e7;m7;");
        int[] was = {7, 70, 7, 7};
        int[] least = {0, 20, 0, 1};
        int[] most = {999, 200, 9, 60};
        for (int what = 0; what < 4; what++) {
            Due.is("what was told", x.set(what, least[what]), was[what]);
            Due.is("the least", x.set(what, most[what]), least[what]);
            Due.is("the most", x.set(what, most[what]), most[what]);
        }
        counts("set", x, 1, 0, 999, 200, 9, 60);
        Due.is("told anew", Due.tell(x, "h1;"), 1);
        Due.is("what was told", x.set(0, 2), 1);
    }

    /** Texts cut at each place, and with each place changed, added and left out. */
    private static void faultsOfManyTexts() {
        Random lot = new Random(21);
        for (String text : TEXTS) {
            Due.is("no fault in " + text, due(text) > 0 ? 1 : 0, 1);
            for (int place = 0; place <= text.length(); place++) {
                String ahead = text.substring(0, place);
                String behind = text.substring(place);
                told(ahead, due(ahead));
                for (String sign : "s h p l e m b n r t 0 1 2 9 ; x".split(" ")) {
                    told(ahead + sign + behind, due(ahead + sign + behind));
                    if (!behind.isEmpty()) {
                        told(ahead + sign + behind.substring(1), due(ahead + sign + behind.substring(1)));
                        told(ahead + behind.substring(1), due(ahead + behind.substring(1)));
                    }
                }
            }
        }
        for (int i = 0; i < 20000; i++) {
            StringBuilder text = new StringBuilder();
            for (int n = lot.nextInt(5); n >= 0; n--) {
                text.append("shplem".charAt(lot.nextInt(6)));
                for (int d = lot.nextInt(lot.nextInt(5) == 0 ? 16 : 4); d > 0; d--) {
                    text.append(lot.nextInt(12) == 0 ? "bnert".charAt(lot.nextInt(5)) : "0129".charAt(lot.nextInt(4)));
                }
                text.append(lot.nextInt(20) == 0 ? "" : ";");
            }
            String random = text.substring(0, Math.min(96, text.length()));
            told(random, due(random));
        }
    }

    /** What road() must answer to a text on a new object, by a pattern and statement by statement. */
    private static int due(String text) {
        for (int end = 0; end <= text.length(); end++) {
            Matcher ahead = ROAD.matcher(text.substring(0, end));
            if (!ahead.matches() && !ahead.hitEnd()) {
                return -1000 - (end - 1);
            }
        }
        if (!ROAD.matcher(text).matches()) {
            return -1000 - text.length();
        }
        int place = 0;
        int stops = 1;
        int lines = 0;
        String[] statements = text.split(";");
        for (String statement : statements) {
            stops += statement.charAt(0) == 's' ? 1 : 0;
            lines += statement.charAt(0) == 'l' ? 1 : 0;
            if (stops > 7 || lines > 3 || !isAsItMustBe(statement)) {
                return -2000 - place;
            }
            place += statement.length() + 1;
        }
        return statements.length;
    }

    private static boolean isAsItMustBe(String statement) {
        char letter = statement.charAt(0);
        if (letter == 'l') {
            return statement.charAt(2) != '0' && !statement.substring(3).replace("0", "").isEmpty();
        }
        int number = Integer.parseInt(statement.substring(1));
        return switch (letter) {
            case 's' -> number >= 1;
            case 'p' -> number >= 20 && number <= 200;
            case 'm' -> number >= 1 && number <= 60;
            default -> true;
        };
    }
}
