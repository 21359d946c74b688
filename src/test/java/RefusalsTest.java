import java.util.ArrayList;
import java.util.Arrays;
import java.util.List;

/**
 * THE REFUSALS of every promise. For each call: the last number that is taken and the first that is refused on
 * either side, and the ends of the ints, each with each, so that wherever two refusals fit, the one that the promise
 * tells first is due. A refused call has a twin that was not called: behind it both must be alike in everything.
 */
public final class RefusalsTest {
    private static final String[] ROADS = {"", "lb211;", "s100;lb211;le312;",
        "s80;s80;s80;s80;s80;s80;lb2111;le2111;lr2111;"};

    private interface Call {
        long on(WaitOrWalkOn x, int[] with);
    }

    /** Whether a refusal fits by more than one number. */
    private interface Further {
        boolean fits(int refusal, int[] with);
    }

    /** A call, its numbers with the refusal that each of them alone brings, and the order of the refusals. */
    private record Refused(String name, boolean isLong, Call call, int[][][] numbers, int[][] order, Further further) {
        int due(int[] with, int[] refusals) {
            for (int[] group : order) {
                if (further.fits(group[0], with)) {
                    return group[0];
                }
                for (int i = 1; i < group.length; i++) {
                    if (refusals[group[i]] == group[0]) {
                        return group[0];
                    }
                }
            }
            return 0;
        }
    }

    public static void main(String[] args) {
        for (String road : ROADS) {
            for (Refused refused : calls(road)) {
                each(road, refused, 0, new int[refused.numbers.length], new int[refused.numbers.length]);
            }
        }
        noRoom();
        noImage();
        notCounted();
        longsAnswerLess();
        all512Calls();
        Due.end();
    }

    private static int[][] thing(int count) {
        return new int[][] {{Integer.MIN_VALUE, -1}, {-1, -1}, {0, count > 0 ? 0 : -1}, {count - 1, count > 0 ? 0 : -1},
            {count, -1}, {Integer.MAX_VALUE, -1}};
    }

    private static int[][] what(int most) {
        return new int[][] {{Integer.MIN_VALUE, -2}, {-1, -2}, {0, 0}, {most, 0}, {most + 1, -2},
            {Integer.MAX_VALUE, -2}};
    }

    private static int[][] number(int least, int most) {
        return new int[][] {{Integer.MIN_VALUE, -4}, {least - 1, -4}, {least, 0}, {most, 0}, {most + 1, -6},
            {Integer.MAX_VALUE, -6}};
    }

    private static int[][] any() {
        return new int[][] {{Integer.MIN_VALUE, 0}, {-1, 0}, {0, 0}, {Integer.MAX_VALUE, 0}};
    }

    private static int[][][] numbers(int[][]... each) {
        return each;
    }

    private static int[][] order(int[]... groups) {
        return groups;
    }

    /** A refusal and the places of the numbers that may bring it. */
    private static int[] first(int refusal, int... places) {
        int[] group = new int[places.length + 1];
        group[0] = refusal;
        System.arraycopy(places, 0, group, 1, places.length);
        return group;
    }

    private static Refused call(String name, Call call, int[][][] numbers, int[][] order) {
        return new Refused(name, false, call, numbers, order, (refusal, with) -> false);
    }

    private static Refused longCall(String name, Call call, int[][][] numbers, int[][] order) {
        return new Refused(name, true, call, numbers, order, (refusal, with) -> false);
    }

    private static List<Refused> calls(String road) {
        WaitOrWalkOn x = Due.road(road + "h1;");
        int[][] stop = thing(x.count(0));
        int[][] line = thing(x.count(1));
        List<Refused> all = new ArrayList<>();
        tellingCalls(all, stop, line);
        goerCalls(all, line);
        placeCalls(all, stop, line);
        pairCalls(all, line);
        return all;
    }

    private static void tellingCalls(List<Refused> all, int[][] stop, int[][] line) {
        all.add(call("letter", (x, a) -> x.letter(a[0]), numbers(number(0, 255)), order(first(-4, 0), first(-6, 0))));
        all.add(call("stop", (x, a) -> x.stop(a[0], a[1]), numbers(stop, what(2)), order(first(-1, 0), first(-2, 1))));
        all.add(call("line", (x, a) -> x.line(a[0], a[1]), numbers(line, what(4)), order(first(-1, 0), first(-2, 1))));
        all.add(call("chance", (x, a) -> x.chance(a[0], a[1]), numbers(line, number(0, 11)),
            order(first(-1, 0), first(-4, 1), first(-6, 1))));
        all.add(call("there", (x, a) -> x.there(a[0], a[1]), numbers(line, stop), order(first(-1, 0, 1))));
        int[] least = {0, 20, 0, 1};
        int[] most = {999, 200, 9, 60};
        for (int what = 0; what < 4; what++) {
            int set = what;
            all.add(call("set " + what, (x, a) -> x.set(set, a[0]), numbers(number(least[what], most[what])),
                order(first(-4, 0), first(-6, 0))));
        }
        int[][] noSuch = {{Integer.MIN_VALUE, -2}, {-1, -2}, {4, -2}, {Integer.MAX_VALUE, -2}};
        all.add(call("set", (x, a) -> x.set(a[0], a[1]), numbers(noSuch, number(0, 999)),
            order(first(-2, 0), first(-4, 1), first(-6, 1))));
        all.add(call("row", (x, a) -> x.row(a[0]), numbers(number(0, 999)), order(first(-4, 0), first(-6, 0))));
    }

    private static void goerCalls(List<Refused> all, int[][] line) {
        int[][] part = what(1);
        int[][] kind = what(5);
        int[][] figure = number(0, 12);
        all.add(longCall("comes", (x, a) -> x.comes(a[0], a[1], a[2], a[3]),
            numbers(line, number(0, 12), number(0, 11), part),
            order(first(-1, 0), first(-4, 1, 2), first(-6, 1, 2), first(-2, 3))));
        all.add(call("homeAt", (x, a) -> x.homeAt(a[0], a[1], a[2], a[3]), numbers(line, kind, figure, number(0, 12)),
            order(first(-1, 0), first(-2, 1), first(-4, 2, 3), first(-6, 2, 3))));
        all.add(longCall("mean", (x, a) -> x.mean(a[0], a[1], a[2], a[3]), numbers(line, kind, figure, part),
            order(first(-1, 0), first(-2, 1), first(-4, 2), first(-6, 2), first(-2, 3))));
        all.add(longCall("sooner", (x, a) -> x.sooner(a[0], a[1], a[2], a[3], a[4]),
            numbers(line, kind, figure, number(0, 999), part),
            order(first(-1, 0), first(-2, 1), first(-4, 2, 3), first(-6, 2, 3), first(-2, 4))));
        all.add(call("rules", (x, a) -> x.rules(a[0]), numbers(line), order(first(-1, 0))));
        all.add(call("lots", (x, a) -> x.lots(a[0], a[1], a[2], a[3]), numbers(line, kind, number(1, 30), any()),
            order(first(-1, 0), first(-2, 1), first(-4, 2), first(-6, 2))));
    }

    private static void placeCalls(List<Refused> all, int[][] stop, int[][] line) {
        int[][] part = what(1);
        all.add(call("best", (x, a) -> x.best(a[0], a[1], a[2]), numbers(line, stop, number(0, 60)),
            order(first(-1, 0, 1), first(-4, 2), first(-6, 2))));
        all.add(longCall("bestMean", (x, a) -> x.bestMean(a[0], a[1], a[2], a[3]),
            numbers(line, stop, number(0, 60), part),
            order(first(-1, 0, 1), first(-4, 2), first(-6, 2), first(-2, 3))));
        all.add(call("patience", (x, a) -> x.patience(a[0]), numbers(line), order(first(-1, 0))));
        all.add(longCall("news", (x, a) -> x.news(a[0], a[1]), numbers(line, part), order(first(-1, 0), first(-2, 1))));
        all.add(call("back", (x, a) -> x.back(a[0], a[1]), numbers(stop, number(0, 30)),
            order(first(-1, 0), first(-4, 1), first(-6, 1))));
        all.add(longCall("gone", (x, a) -> x.gone(a[0], a[1], a[2], a[3]), numbers(line, stop, number(0, 99), part),
            order(first(-1, 0, 1), first(-4, 2), first(-6, 2), first(-2, 3))));
        all.add(new Refused("stood", true, (x, a) -> x.stood(a[0], a[1], a[2], a[3], a[4]),
            numbers(line, stop, number(0, 99), number(0, 99), part),
            order(first(-1, 0, 1), first(-4, 2, 3), first(-6, 2, 3), first(-2, 4)),
            (refusal, a) -> refusal == -6 && a[2] > a[3]));
        all.add(call("others", (x, a) -> x.others(a[0], a[1], a[2], a[3]),
            numbers(number(1, 9), number(0, 30), number(0, 30), number(0, 60)),
            order(first(-4, 0, 1, 2, 3), first(-6, 0, 1, 2, 3))));
    }

    /** One line twice is refused, too: of letMean the document does not say so in so many words. */
    private static void pairCalls(List<Refused> all, int[][] line) {
        Further twice = (refusal, a) -> refusal == -1 && a[0] == a[1];
        int[][] part = what(1);
        all.add(new Refused("both", true, (x, a) -> x.both(a[0], a[1], a[2]), numbers(line, line, part),
            order(first(-1, 0, 1), first(-2, 2)), twice));
        all.add(new Refused("letGo", false, (x, a) -> x.letGo(a[0], a[1]), numbers(line, line),
            order(first(-1, 0, 1)), twice));
        all.add(new Refused("letMean", true, (x, a) -> x.letMean(a[0], a[1], a[2], a[3]),
            numbers(line, line, number(0, 12), part),
            order(first(-1, 0, 1), first(-4, 2), first(-6, 2), first(-2, 3)), twice));
    }

    private static void each(String road, Refused refused, int place, int[] with, int[] refusals) {
        if (place == with.length) {
            one(road, refused, with, refused.due(with, refusals));
            return;
        }
        for (int[] number : refused.numbers[place]) {
            with[place] = number[0];
            refusals[place] = number[1];
            each(road, refused, place + 1, with, refusals);
        }
    }

    private static void one(String road, Refused refused, int[] with, int due) {
        String call = "on " + road + ": " + refused.name + " " + Arrays.toString(with);
        WaitOrWalkOn x = begun(road);
        long answer = refused.call.on(x, with);
        if (due == 0) {
            check(call + " answered " + answer + ", it is not refused",
                refused.isLong ? answer >= 0 && answer < 4000000000000000000L : answer >= 0 || answer == -9);
        } else {
            Due.is(call, answer, refused.isLong ? Due.asLong(due) : due);
            same(call, x, begun(road), due);
        }
        for (int what = 11; what <= 16; what++) {
            Due.is(call, x.count(what), due != 0 && what == 10 - due ? 1 : 0);
        }
    }

    private static void check(String what, boolean holds) {
        Due.is(what, holds ? 1 : 0, 1);
    }

    /** A road with an image of it, changed since, two letters and two numbers of a row. */
    private static WaitOrWalkOn begun(String road) {
        WaitOrWalkOn x = new WaitOrWalkOn();
        tell(x, road);
        x.image();
        tell(x, "h99;e3;");
        x.letter('h');
        x.letter('7');
        x.row(5);
        x.row(6);
        return x;
    }

    private static void tell(WaitOrWalkOn x, String text) {
        for (int i = 0; i < text.length(); i++) {
            x.letter(text.charAt(i));
        }
        if (!text.isEmpty()) {
            x.road();
        }
    }

    /** All that can be asked of both is alike, and so is what comes of the row, the letters and the image. */
    private static void same(String call, WaitOrWalkOn x, WaitOrWalkOn twin, int refusal) {
        for (int what = 11; what <= 16; what++) {
            Due.is(call, x.count(what) - twin.count(what), what == 10 - refusal ? 1 : 0);
        }
        sameRoad(call, x, twin);
        Due.is(call, x.judge(), twin.judge());
        Due.is(call, x.letter(';'), twin.letter(';'));
        Due.is(call, x.road(), twin.road());
        sameRoad(call, x, twin);
        Due.is(call, x.on(), twin.on());
        sameRoad(call, x, twin);
    }

    private static void sameRoad(String call, WaitOrWalkOn x, WaitOrWalkOn twin) {
        for (int what = 0; what <= 7; what++) {
            Due.is(call, x.count(what), twin.count(what));
        }
        for (int stop = 0; stop < twin.count(0); stop++) {
            Due.is(call, x.stop(stop, 0), twin.stop(stop, 0));
        }
        for (int line = 0; line < twin.count(1); line++) {
            for (int what = 0; what <= 4; what++) {
                Due.is(call, x.line(line, what), twin.line(line, what));
            }
            for (int minute = 0; minute < 12; minute++) {
                Due.is(call, x.chance(line, minute), twin.chance(line, minute));
            }
            Due.is(call, x.bestMean(line, 0, 0, 0), twin.bestMean(line, 0, 0, 0));
        }
    }

    /** Promises 2 and 26: "-6 (255; 96, too)", "-6 (999; 12, too)", behind -4. */
    private static void noRoom() {
        WaitOrWalkOn x = new WaitOrWalkOn();
        for (int i = 1; i <= 95; i++) {
            Due.is("letter " + i, x.letter("h1;".charAt((i - 1) % 3)), i);
        }
        Due.is("the ninety-sixth is taken", x.letter(';'), 96);
        Due.is("the ninety-seventh is not", x.letter('h'), Due.ROOM);
        Due.is("nor one above 255", x.letter(256), Due.ROOM);
        Due.is("below goes ahead of no room", x.letter(-1), Due.BELOW);
        Due.is("letters", x.count(7), 96);
        Due.is("those that came are a road", x.road(), 32);
        Due.is("there is room again", x.letter('h'), 1);
        for (int i = 1; i <= 12; i++) {
            Due.is("number " + i, x.row(i == 12 ? 999 : 0), i);
        }
        Due.is("the thirteenth is not taken", x.row(0), Due.ROOM);
        Due.is("nor one above 999", x.row(1000), Due.ROOM);
        Due.is("below goes ahead of no room", x.row(-1), Due.BELOW);
        Due.is("numbers", x.count(6), 12);
        Due.is("judged", x.judge(), 1);
        Due.is("there is room again", x.row(0), 1);
        Due.is("refused -4", x.count(14), 2);
        Due.is("refused -6", x.count(16), 4);
    }

    /** Promise 30: "-3 there is none". */
    private static void noImage() {
        WaitOrWalkOn x = Due.road("s5;lb211;");
        Due.is("no image yet", x.on(), Due.STATE);
        same("on without an image", withImage(x), withImage(Due.road("s5;lb211;")), Due.STATE);
        Due.is("an image is taken: none is lacking any more", x.on(), 2);
        Due.is("refused -3", x.count(13), 1);
    }

    private static WaitOrWalkOn withImage(WaitOrWalkOn x) {
        x.image();
        return x;
    }

    /** Promises 3 and 31: "nothing is counted" of a FAULT, and "-9 for another what" is no refusal. */
    private static void notCounted() {
        WaitOrWalkOn x = new WaitOrWalkOn();
        Due.is("fault", x.road(), -1000);
        Due.is("fault", Due.tell(x, "s0;"), -2000);
        int[] others = {Integer.MIN_VALUE, -1, 8, 9, 10, 17, Integer.MAX_VALUE};
        for (int what : others) {
            Due.is("count " + what, x.count(what), -9);
        }
        Due.is("judged", x.judge(), -9);
        Due.is("it comes", Due.tell(x, "s800;s800;s800;le2001;"), 4);
        Due.is("it does not halt there", x.there(0, 1), -9);
        Due.is("it can not be", x.best(0, 0, 2), -9);
        Due.is("it can not be", x.patience(0), -9);
        for (int what = 11; what <= 16; what++) {
            Due.is("refusals " + what, x.count(what), 0);
        }
    }

    /** "Of longs 4000000000000000000 less them (-1 as 4000000000000000001)." */
    private static void longsAnswerLess() {
        WaitOrWalkOn x = new WaitOrWalkOn();
        Due.is("-1", x.news(0, 0), 4000000000000000001L);
        Due.is("it comes", Due.tell(x, "lb211;"), 1);
        Due.is("-2", x.news(0, 2), 4000000000000000002L);
        Due.is("-4", x.gone(0, 0, -1, 0), 4000000000000000004L);
        Due.is("-6", x.gone(0, 0, 100, 0), 4000000000000000006L);
        int[] counted = {1, 1, 0, 1, 0, 1};
        for (int i = 0; i < 6; i++) {
            Due.is("refused -" + (i + 1), x.count(11 + i), counted[i]);
        }
    }

    /** "An object is used for at most 512 calls": the last of them still answers, and all refusals were counted. */
    private static void all512Calls() {
        WaitOrWalkOn x = new WaitOrWalkOn();
        for (int call = 1; call <= 511; call++) {
            Due.is("refused", x.set(4, 0), Due.OTHER);
        }
        Due.is("the 512th call", x.count(12), 511);
    }
}
