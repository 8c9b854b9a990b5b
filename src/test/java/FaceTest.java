import java.io.IOException;
import java.lang.reflect.Constructor;
import java.lang.reflect.Field;
import java.lang.reflect.Method;
import java.lang.reflect.Modifier;
import java.nio.file.Files;
import java.nio.file.Path;
import java.util.Arrays;
import java.util.Set;
import java.util.TreeSet;
import java.util.regex.Matcher;
import java.util.regex.Pattern;

/** The public face is the document's and no more, and the source keeps to what LANGUAGE.md leaves. */
public final class FaceTest {
    private static final String SOURCE = "src/main/java/SunsetSale.java";
    private static final String METHODS = "write1 erase0 fault0 west0 evening2 bidder2 as2 eveningAs2 bid2 sale1 price2"
        + " says3 undo0 keep1 back1 gain3 limit1 has1 reply2 tempted0 cartel1 otherwise0 season2 bright2 score1 best0"
        + " seen2 forget0 buyers0 count1";
    private static final String FORBIDDEN = "\\b(throw|throws|try|catch|finally|synchronized|assert|native|volatile"
        + "|Exception|Error|System\\.(?!arraycopy)\\w+|\\w+Exact|Object|Thread|Random|equals|hashCode|toString|protected)\\b"
        + "|->|::";

    private static int wrong = 0;

    private static void check(String what, boolean holds) {
        if (!holds) {
            wrong++;
            System.out.println("not so: " + what);
        }
    }

    public static void main(String[] args) throws IOException {
        face();
        constants();
        nested();
        source(Files.readString(Path.of(SOURCE)));
        System.out.println(wrong + " rules broken");
        if (wrong != 0) {
            System.exit(1);
        }
    }

    private static void face() {
        Class<?> type = SunsetSale.class;
        check("the class is public and final", (type.getModifiers() & (Modifier.PUBLIC | Modifier.FINAL)) == 17);
        Set<String> seen = new TreeSet<>();
        for (Method m : type.getDeclaredMethods()) {
            if (m.isSynthetic() || Modifier.isPrivate(m.getModifiers())) {
                check(m.getName() + " has a name of its own", !(" " + METHODS).matches(".* " + m.getName() + "\\d.*"));
                continue;
            }
            check(m + " is public, of the object", m.getModifiers() == Modifier.PUBLIC);
            check(m + " answers an int", m.getReturnType() == int.class);
            check(m + " takes ints", Arrays.stream(m.getParameterTypes()).allMatch(p -> p == int.class));
            seen.add(m.getName() + m.getParameterCount());
        }
        check("the methods are the document's", seen.equals(new TreeSet<>(Arrays.asList(METHODS.split(" ")))));
        Constructor<?>[] makers = type.getDeclaredConstructors();
        check("one public constructor of nothing", makers.length == 1 && makers[0].getParameterCount() == 0
            && makers[0].getModifiers() == Modifier.PUBLIC);
    }

    private static void constants() {
        check("NONE", SunsetSale.NONE == -1);
        check("UNKNOWN", SunsetSale.UNKNOWN == -2);
        check("OUTSIDE", SunsetSale.OUTSIDE == -3);
        check("NOT", SunsetSale.NOT == -4);
        check("FULL", SunsetSale.FULL == -5);
        int open = 0;
        for (Field f : SunsetSale.class.getDeclaredFields()) {
            boolean isStatic = Modifier.isStatic(f.getModifiers());
            check(f + " is final, if static", !isStatic || Modifier.isFinal(f.getModifiers()));
            if (!Modifier.isPrivate(f.getModifiers())) {
                open++;
            }
        }
        check("five open constants", open == 5);
    }

    private static void nested() {
        Class<?>[] inside = SunsetSale.class.getDeclaredClasses();
        check("some twelve classes at most", inside.length < 12);
        for (Class<?> c : inside) {
            check(c + " is static", Modifier.isStatic(c.getModifiers()));
            check(c + " is not public", (c.getModifiers() & (Modifier.PUBLIC | Modifier.PROTECTED)) == 0);
            check(c + " has some twenty fields at most", c.getDeclaredFields().length <= 20);
        }
    }

    private static void source(String text) {
        String code = text.replaceAll("(?s)/\\*.*?\\*/", "").replaceAll("//[^\n]*", "").replaceAll("\"[^\"\n]*\"", "S");
        Matcher m = Pattern.compile(FORBIDDEN).matcher(code);
        while (m.find()) {
            check("'" + m.group() + "' is not used", false);
        }
        check("no package line", !code.contains("package "));
        check("only java.util.Arrays is imported", code.replace("import java.util.Arrays;", "").indexOf("import ") < 0);
        check("plain letters only", text.chars().allMatch(c -> c == '\n' || c >= 32 && c < 127));
        String[] methods = code.split("\n(    |        )\\}\n");
        for (String method : methods) {
            check("methods stay short", method.lines().filter(line -> !line.isBlank()).count() <= 75);
        }
    }
}
