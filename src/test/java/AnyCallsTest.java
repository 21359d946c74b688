import java.lang.reflect.InvocationTargetException;
import java.lang.reflect.Method;
import java.lang.reflect.Modifier;
import java.util.ArrayList;
import java.util.Comparator;
import java.util.List;
import java.util.Random;

/**
 * Any calls with any numbers: none throws, a refusal changes nothing but how many there were. Each run has two
 * objects: one gets all calls, the other only those that are not refused; both must answer alike.
 */
public final class AnyCallsTest {
    private static final int[] EDGES = {Integer.MIN_VALUE, -1000, -2, -1, 0, 1, 2, 3, 4, 5, 6, 7, 9, 10, 11, 12, 13,
        19, 20, 30, 31, 59, 60, 61, 99, 100, 200, 201, 255, 256, 999, 1000, Integer.MAX_VALUE};
    private static final String[] STATEMENTS = {"s1;", "s999;", "s250;", "h0;", "h700;", "p20;", "p200;", "e9;",
        "m1;", "m60;", "lb10909;", "ln919999999999999;", "le5010203;", "lr9000000000001;", "lt41100;", "s0;", "q"};

    public static void main(String[] args) throws ReflectiveOperationException {
        List<Method> face = new ArrayList<>();
        for (Method m : WaitOrWalkOn.class.getDeclaredMethods()) {
            if (Modifier.isPublic(m.getModifiers())) {
                face.add(m);
            }
        }
        face.sort(Comparator.comparing(Method::getName));
        Random lot = new Random(1);
        for (int run = 0; run < 400; run++) {
            oneRun(face, lot);
        }
        Due.end();
    }

    private static void oneRun(List<Method> face, Random lot) throws ReflectiveOperationException {
        WaitOrWalkOn all = new WaitOrWalkOn();
        WaitOrWalkOn unrefused = new WaitOrWalkOn();
        int[] refused = new int[7];
        for (int call = 0; call < 500; call++) {
            if (lot.nextInt(20) == 0) {
                tellBoth(all, unrefused, STATEMENTS[lot.nextInt(STATEMENTS.length)], lot.nextInt(3) > 0);
            }
            Method m = face.get(lot.nextInt(face.size()));
            Object[] with = new Object[m.getParameterCount()];
            for (int i = 0; i < with.length; i++) {
                with[i] = lot.nextInt(3) > 0 ? lot.nextInt(3) : EDGES[lot.nextInt(EDGES.length)];
            }
            if (m.getName().equals("count")) {
                continue;
            }
            long answer = answer(m, all, with);
            int refusal = refusal(m, answer);
            if (refusal > 0) {
                refused[refusal]++;
            } else {
                Due.is(m.getName(), answer(m, unrefused, with), answer);
            }
            for (int what = 1; what <= 6; what++) {
                Due.is("refusals " + what, all.count(10 + what), refused[what]);
                Due.is("no refusals " + what, unrefused.count(10 + what), 0);
            }
            for (int what = 0; what <= 7; what++) {
                Due.is("count " + what, all.count(what), unrefused.count(what));
            }
        }
    }

    private static void tellBoth(WaitOrWalkOn all, WaitOrWalkOn unrefused, String text, boolean ends) {
        if (all.count(7) + text.length() > 96) {
            return;
        }
        for (int i = 0; i < text.length(); i++) {
            Due.is("letter", all.letter(text.charAt(i)), unrefused.letter(text.charAt(i)));
        }
        if (ends) {
            Due.is("road", all.road(), unrefused.road());
        }
    }

    private static long answer(Method m, WaitOrWalkOn x, Object[] with) throws ReflectiveOperationException {
        try {
            return ((Number) m.invoke(x, with)).longValue();
        } catch (InvocationTargetException thrown) {
            Due.is(m.getName() + " threw " + thrown.getCause(), 1, 0);
            return 0;
        }
    }

    private static int refusal(Method m, long answer) {
        long number = m.getReturnType() == long.class ? answer - 4000000000000000000L : -answer;
        return number >= 1 && number <= 6 ? (int) number : 0;
    }
}
