/** What the tests share: each wrong answer is printed, and a test with one ends with exit code 1. */
final class Due {
    static final int NOBODY = -1;
    static final int OTHER = -2;
    static final int STATE = -3;
    static final int BELOW = -4;
    static final int ROOM = -6;

    private static int right = 0;
    private static int wrong = 0;

    private Due() {
    }

    static void is(String call, long got, long want) {
        if (got == want) {
            right++;
        } else {
            wrong++;
            System.out.println(call + " answered " + got + ", due is " + want);
        }
    }

    static void isFraction(String call, long above, long below, long wantAbove, long wantBelow) {
        is(call + " above", above, wantAbove);
        is(call + " below", below, wantBelow);
    }

    /** A refusal of a call that answers a long. */
    static long asLong(int refusal) {
        return 4000000000000000000L - refusal;
    }

    static int tell(WaitOrWalkOn x, String text) {
        for (int i = 0; i < text.length(); i++) {
            is("letter of " + text, x.letter(text.charAt(i)), i + 1);
        }
        return x.road();
    }

    static WaitOrWalkOn road(String text) {
        WaitOrWalkOn x = new WaitOrWalkOn();
        int statements = 0;
        for (int i = 0; i < text.length(); i++) {
            statements += text.charAt(i) == ';' ? 1 : 0;
        }
        is("road " + text, tell(x, text), statements);
        return x;
    }

    static void end() {
        System.out.println(right + " answers as due, " + wrong + " not");
        if (wrong != 0) {
            System.exit(1);
        }
    }
}
