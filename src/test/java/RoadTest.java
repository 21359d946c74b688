/** Promises 1 to 8, 11 and 31: a new object, letters, roads and their faults, stops, lines, settings, counts. */
public final class RoadTest {
    public static void main(String[] args) {
        newObject();
        letters();
        roads();
        firstFaults();
        endsWithItsLetters();
        secondFaults();
        faultsChangeNothing();
        stops();
        lines();
        settings();
        Due.end();
    }

    private static void newObject() {
        WaitOrWalkOn x = new WaitOrWalkOn();
        int[] due = {1, 0, 400, 80, 2, 30, 0, 0};
        for (int what = 0; what < due.length; what++) {
            Due.is("new count " + what, x.count(what), due[what]);
        }
        for (int what = 11; what <= 16; what++) {
            Due.is("new count " + what, x.count(what), 0);
        }
        for (int what : new int[] {-1, 8, 9, 10, 17, 100, Integer.MIN_VALUE, Integer.MAX_VALUE}) {
            Due.is("count of nothing " + what, x.count(what), -9);
        }
        Due.is("nothing was refused", x.count(12) + x.count(14) + x.count(16), 0);
        Due.is("new walked", x.walked(), 5);
        Due.is("no line", x.line(0, 0), Due.NOBODY);
        Due.is("no image", x.on(), Due.STATE);
        Due.is("no row", x.judge(), -9);
    }

    private static void letters() {
        WaitOrWalkOn x = new WaitOrWalkOn();
        Due.is("letter 0", x.letter(0), 1);
        Due.is("letter 255", x.letter(255), 2);
        Due.is("letter 256", x.letter(256), Due.ROOM);
        Due.is("letter -1", x.letter(-1), Due.BELOW);
        Due.is("letters", x.count(7), 2);
        for (int i = 3; i <= 96; i++) {
            Due.is("letter more", x.letter('s'), i);
        }
        Due.is("letter 97", x.letter('s'), Due.ROOM);
        Due.is("letter 97 below", x.letter(-5), Due.BELOW);
        Due.is("letters", x.count(7), 96);
        Due.is("refused -4", x.count(14), 2);
        Due.is("refused -6", x.count(16), 2);
        Due.is("road", x.road(), -1000);
        Due.is("letters are no more", x.count(7), 0);
    }

    private static void roads() {
        WaitOrWalkOn x = Due.road("s001;s999;h000;p020;lb1900;le91123456789012;e0;m1;e9;m60;m07;");
        int[] due = {3, 2, 1000, 20, 9, 7, 0, 0};
        for (int what = 0; what < due.length; what++) {
            Due.is("count " + what, x.count(what), due[what]);
        }
        Due.is("a second road comes to it", Due.tell(x, "s5;h7;p200;lt101;"), 4);
        int[] then = {4, 3, 1012, 200, 9, 7, 0, 0};
        for (int what = 0; what < then.length; what++) {
            Due.is("count then " + what, x.count(what), then[what]);
        }
        StringBuilder full = new StringBuilder();
        for (int i = 0; i < 32; i++) {
            full.append("h").append(i % 10).append(";");
        }
        Due.is("96 letters", Due.tell(x, full.toString()), 32);
        Due.is("the last one stands", x.count(2), 1006);
    }

    private static void fault(String text, int due) {
        WaitOrWalkOn x = new WaitOrWalkOn();
        Due.is("road " + text, Due.tell(x, text), due);
        Due.is("letters behind " + text, x.count(7), 0);
        for (int what = 11; what <= 16; what++) {
            Due.is("a fault is not counted", x.count(what), 0);
        }
    }

    private static void firstFaults() {
        fault("", -1000);
        fault(";", -1000);
        fault("S1;", -1000);
        fault("1;", -1000);
        fault("s", -1001);
        fault("sx;", -1001);
        fault("s1", -1002);
        fault("s12", -1003);
        fault("s123", -1004);
        fault("s1234;", -1004);
        fault("s 1;", -1001);
        fault("s1;;", -1003);
        fault("s1; h1;", -1003);
        fault("h", -1001);
        fault("h1000;", -1004);
        fault("p", -1001);
        fault("p;", -1001);
        fault("p5;", -1002);
        fault("p5", -1002);
        fault("p0205;", -1004);
        fault("e", -1001);
        fault("e12;", -1002);
        fault("m", -1001);
        fault("m123;", -1003);
        fault("l", -1001);
        fault("l;", -1001);
        fault("lB111;", -1001);
        fault("l1111;", -1001);
        fault("lb", -1002);
        fault("lb;", -1002);
        fault("lb1", -1003);
        fault("lb1;", -1003);
        fault("lb11", -1004);
        fault("lb11;", -1004);
        fault("lb111", -1005);
        fault("lb11111111111111;", 1);
        fault("lb111111111111111;", -1016);
        fault("lb111111111111111", -1016);
        fault("lb1111x;", -1006);
        fault("s0;s1;x", -1006);
        fault("s0;lb1", -1006);
    }

    /** What stood behind the end in an earlier text does not count. */
    private static void endsWithItsLetters() {
        WaitOrWalkOn x = Due.road("s12;s1;");
        Due.is("the end lacks", Due.tell(x, "s34"), -1003);
        Due.is("a digit lacks", Due.tell(x, "p2"), -1002);
        Due.is("nothing at all", Due.tell(x, ""), -1000);
        StringBuilder full = new StringBuilder("h10;h1");
        for (int i = 0; i < 30; i++) {
            full.append(";h2");
        }
        Due.is("96 letters and no end", Due.tell(x, full.toString()), -1096);
        Due.is("nothing came", x.count(2), 413);
    }

    private static void secondFaults() {
        fault("s0;", -2000);
        fault("s1;s000;", -2003);
        fault("p19;", -2000);
        fault("p019;", -2000);
        fault("p20;p200;p201;", -2009);
        fault("m0;", -2000);
        fault("m00;", -2000);
        fault("m60;m61;", -2004);
        fault("lb011;", -2000);
        fault("lb100;", -2000);
        fault("lb10000000000000;", -2000);
        fault("lb10000000000001;", 1);
        fault("lb110;", 1);
        fault("s1;s1;s1;s1;s1;s1;", 6);
        fault("s1;s1;s1;s1;s1;s1;h5;s1;", -2021);
        fault("lb101;lb101;lb101;", 3);
        fault("lb101;lb101;lb101;e1;lb101;", -2021);
        fault("p19;s0;", -2000);
        fault("h999;h0;e9;e0;", 4);
    }

    private static void faultsChangeNothing() {
        WaitOrWalkOn x = Due.road("s100;h50;p50;lb203;e3;m9;");
        long before = state(x);
        Due.is("fault", Due.tell(x, "s5;h5;p200;lt919;e9;m60;s0;"), -2024);
        Due.is("all as it was", state(x), before);
        Due.is("fault", Due.tell(x, "s5;h5;p200;lt919;e9;m60;s"), -1025);
        Due.is("all as it was", state(x), before);
        Due.is("room is counted with what stands", Due.tell(x, "s1;s1;s1;s1;s1;s1;"), -2015);
        Due.is("all as it was", state(x), before);
        Due.is("lines, too", Due.tell(x, "lb101;lb101;lb101;"), -2012);
        Due.is("all as it was", state(x), before);
        Due.is("a line behind a refused one has only its own chances", Due.tell(x, "lb901;"), 1);
        Due.is("chance 0", x.chance(1, 0), 1);
        Due.is("chance 1", x.chance(1, 1), 0);
    }

    private static long state(WaitOrWalkOn x) {
        long all = 0;
        for (int what = 0; what <= 5; what++) {
            all = all * 1009 + x.count(what);
        }
        for (int what = 0; what <= 4; what++) {
            all = all * 1009 + x.line(0, what);
        }
        return all * 1009 + x.stop(1, 0);
    }

    private static void stops() {
        WaitOrWalkOn x = Due.road("s600;s400;s801;h300;p80;");
        int[][] due = {{0, 0, 28}, {600, 8, 20}, {400, 13, 15}, {801, 24, 4}};
        for (int stop = 0; stop < 4; stop++) {
            for (int what = 0; what < 3; what++) {
                Due.is("stop " + stop + " " + what, x.stop(stop, what), due[stop][what]);
            }
        }
        Due.is("walked", x.walked(), 28);
        Due.is("home 0", x.set(0, 0), 300);
        Due.is("walked", x.walked(), 24);
        Due.is("home from the last", x.stop(3, 2), 0);
        Due.is("yards", x.count(2), 1801);
        Due.is("no stop", x.stop(4, 0), Due.NOBODY);
        Due.is("no stop", x.stop(-1, 9), Due.NOBODY);
        Due.is("no what", x.stop(3, -1), Due.OTHER);
        Due.is("no what", x.stop(3, 3), Due.OTHER);
    }

    private static void kind(char letter, int number, int run, int[] there) {
        WaitOrWalkOn x = Due.road("s1;s1;s1;s1;s1;l" + letter + run + "23579;");
        Due.is("kind", x.line(0, 0), number);
        Due.is("run", x.line(0, 1), run);
        Due.is("never", x.line(0, 2), 2);
        Due.is("all", x.line(0, 3), 26);
        Due.is("to the last", x.line(0, 4), there[5]);
        for (int stop = 0; stop < 6; stop++) {
            Due.is(letter + " there " + stop, x.there(0, stop), there[stop]);
        }
        Due.is("a stop more", Due.tell(x, "s1;"), 1);
        Due.is("the fifth is no longer the last", x.there(0, 5), number == 2 || number == 4 ? -9 : there[5]);
        Due.is("the sixth is the last", x.there(0, 6), x.line(0, 4));
    }

    private static void lines() {
        kind('b', 0, 3, new int[] {0, 3, 6, 9, 12, 15});
        kind('n', 1, 3, new int[] {0, 4, 8, 12, 16, 20});
        kind('e', 2, 3, new int[] {0, -9, 6, -9, 12, 15});
        kind('r', 3, 3, new int[] {0, 9, 13, 17, 21, 25});
        kind('t', 4, 3, new int[] {0, -9, 4, -9, 8, 10});
        kind('t', 4, 4, new int[] {0, -9, 4, -9, 8, 10});
        kind('t', 4, 1, new int[] {0, -9, 2, -9, 4, 5});
        kind('t', 4, 9, new int[] {0, -9, 10, -9, 20, 25});
        WaitOrWalkOn x = Due.road("lr90123456789012;lb1301;");
        Due.is("to the last of one stop", x.line(0, 4), 0);
        Due.is("there", x.there(0, 0), 0);
        for (int minute = 0; minute < 12; minute++) {
            Due.is("chance " + minute, x.chance(0, minute), (minute + 1) % 10);
            Due.is("chance " + minute, x.chance(1, minute), minute == 1 ? 1 : 0);
        }
        Due.is("no line", x.line(2, 0), Due.NOBODY);
        Due.is("no line", x.line(-1, 9), Due.NOBODY);
        Due.is("no what", x.line(1, 5), Due.OTHER);
        Due.is("no what", x.line(1, -1), Due.OTHER);
        Due.is("no chance", x.chance(2, -1), Due.NOBODY);
        Due.is("no chance", x.chance(1, -1), Due.BELOW);
        Due.is("no chance", x.chance(1, 12), Due.ROOM);
        Due.is("not there", x.there(2, 0), Due.NOBODY);
        Due.is("not there", x.there(0, 1), Due.NOBODY);
        Due.is("not there", x.there(0, -1), Due.NOBODY);
    }

    private static void settings() {
        WaitOrWalkOn x = new WaitOrWalkOn();
        int[] was = {400, 80, 2, 30};
        int[] least = {0, 20, 0, 1};
        int[] most = {999, 200, 9, 60};
        int[] count = {2, 3, 4, 5};
        for (int what = 0; what < 4; what++) {
            Due.is("set least", x.set(what, least[what]), was[what]);
            Due.is("set below", x.set(what, least[what] - 1), Due.BELOW);
            Due.is("it stays", x.count(count[what]), least[what]);
            Due.is("set most", x.set(what, most[what]), least[what]);
            Due.is("set above", x.set(what, most[what] + 1), Due.ROOM);
            Due.is("it stays", x.count(count[what]), most[what]);
        }
        Due.is("set nothing", x.set(-1, -1), Due.OTHER);
        Due.is("set nothing", x.set(4, 2000), Due.OTHER);
        Due.is("refused -2", x.count(12), 2);
        Due.is("refused -4", x.count(14), 4);
        Due.is("refused -6", x.count(16), 4);
    }
}
