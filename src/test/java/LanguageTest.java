import java.io.IOException;
import java.lang.reflect.Constructor;
import java.lang.reflect.Field;
import java.lang.reflect.Method;
import java.lang.reflect.Modifier;
import java.nio.file.Files;
import java.nio.file.Path;
import java.util.Arrays;
import java.util.List;
import java.util.Set;
import java.util.TreeSet;
import java.util.regex.Matcher;
import java.util.regex.Pattern;

/** The face of the document, and those rules of LANGUAGE.md that can be looked for in the text. */
public final class LanguageTest {
    private static final String FACE = "best(3)I bestMean(4)J back(2)I both(3)J chance(2)I comes(4)J count(1)I "
        + "gone(4)J homeAt(4)I image(0)I judge(0)I letGo(2)I letMean(4)J letter(1)I line(2)I lots(4)I mean(4)J "
        + "news(2)J on(0)I others(4)I patience(1)I road(0)I row(1)I rules(1)I set(2)I sooner(5)J stood(5)J stop(2)I "
        + "there(2)I walked(0)I";

    public static void main(String[] args) throws IOException {
        face();
        Set<String> names = new TreeSet<>();
        for (Method m : WaitOrWalkOn.class.getDeclaredMethods()) {
            if (Modifier.isPublic(m.getModifiers())) {
                names.add(m.getName());
            }
        }
        Class<?>[] inside = WaitOrWalkOn.class.getDeclaredClasses();
        check("classes", inside.length < 12);
        check("fields", instanceFields(WaitOrWalkOn.class) <= 20);
        for (Class<?> c : inside) {
            check(c + " is static and not public",
                Modifier.isStatic(c.getModifiers()) && !Modifier.isPublic(c.getModifiers()));
            check(c + " has few fields", instanceFields(c) <= 20);
            for (Method m : c.getDeclaredMethods()) {
                check(m + " bears no name of the face", !names.contains(m.getName()));
                check(m + " has few parameters", m.getParameterCount() <= 7);
            }
        }
        text(Files.readString(Path.of("src/main/java/WaitOrWalkOn.java")));
        Due.end();
    }

    private static void check(String what, boolean holds) {
        Due.is(what, holds ? 1 : 0, 1);
    }

    private static void face() {
        Set<String> due = new TreeSet<>(List.of(FACE.split(" ")));
        Set<String> got = new TreeSet<>();
        for (Method m : WaitOrWalkOn.class.getDeclaredMethods()) {
            if (Modifier.isPublic(m.getModifiers())) {
                check(m + " takes ints", Arrays.stream(m.getParameterTypes()).allMatch(t -> t == int.class));
                check(m + " is not static", !Modifier.isStatic(m.getModifiers()));
                got.add(m.getName() + "(" + m.getParameterCount() + ")" + m.getReturnType().descriptorString());
            } else {
                check(m + " is private", Modifier.isPrivate(m.getModifiers()));
                check(m + " has few parameters", m.getParameterCount() <= 7);
            }
        }
        check("the face is " + got, got.equals(due));
        check("final and public", Modifier.isFinal(WaitOrWalkOn.class.getModifiers())
            && Modifier.isPublic(WaitOrWalkOn.class.getModifiers()));
        Constructor<?>[] constructors = WaitOrWalkOn.class.getDeclaredConstructors();
        check("one constructor", constructors.length == 1 && constructors[0].getParameterCount() == 0);
        for (Field f : WaitOrWalkOn.class.getDeclaredFields()) {
            check(f + " is private", Modifier.isPrivate(f.getModifiers()));
            check(f + " is final, if static", !Modifier.isStatic(f.getModifiers()) || Modifier.isFinal(f.getModifiers()));
        }
    }

    private static int instanceFields(Class<?> c) {
        int fields = 0;
        for (Field f : c.getDeclaredFields()) {
            fields += Modifier.isStatic(f.getModifiers()) ? 0 : 1;
        }
        return fields;
    }

    private static void text(String source) {
        String code = source.replaceAll("(?s)/\\*.*?\\*/", "").replaceAll("//[^\n]*", "");
        for (String word : List.of("throw", "throws", "try", "catch", "synchronized", "assert", "package", "native",
            "double", "float", "Object", "Exact", "equals", "hashCode", "toString", "System.out", "MAX_VALUE")) {
            check("no " + word, !Pattern.compile("\\b" + Pattern.quote(word) + "\\b").matcher(code).find());
        }
        check("no lambda", !code.contains("->"));
        check("no method reference", !code.contains("::"));
        check("signs 1 to 127", source.chars().allMatch(c -> c > 0 && c < 128));
        check("no import", !code.contains("import "));
        for (String row : code.split("\n")) {
            check("objects are made with the object only: " + row,
                !row.contains("new ") || row.contains(" final ") || row.trim().equals("lines[i] = new Line();"));
        }
        methodsAreShort(code);
    }

    private static void methodsAreShort(String code) {
        String[] rows = code.split("\n");
        int start = -1;
        String indent = "";
        for (int i = 0; i < rows.length; i++) {
            Matcher head = Pattern.compile("^( +)(?!.*\\bclass\\b).*\\) \\{$").matcher(rows[i]);
            if (start < 0 && head.matches()) {
                start = i;
                indent = head.group(1);
            } else if (start >= 0 && rows[i].equals(indent + "}")) {
                check("short: " + rows[start].trim(), i - start < 60);
                start = -1;
            }
        }
    }
}
