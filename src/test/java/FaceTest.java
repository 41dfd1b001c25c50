import java.lang.reflect.Constructor;
import java.lang.reflect.Field;
import java.lang.reflect.Method;
import java.lang.reflect.Modifier;
import java.nio.file.Files;
import java.nio.file.Path;
import java.util.ArrayList;
import java.util.List;
import java.util.Set;
import java.util.TreeSet;
import java.util.regex.Matcher;
import java.util.regex.Pattern;

/** The public face as the document has it, and rules of LANGUAGE.md that can be seen from outside. */
public final class FaceTest {
    private static final String SOURCE = "src/main/java/LedWitness.java";

    private static final String[] METHODS = {
        "int letter(int)", "int blank()", "int fault()", "int open()", "int feature(int,int)",
        "int witness(int)", "int about(int,int)", "int as(int,int)", "int saw(int,int,int,int)",
        "int ask(int,int)", "int lead(int,int,int,int)", "int talk(int,int)", "int night()",
        "int word(int,int,int)", "int corridor(int)", "int say(int,int,int)", "int forget()",
        "int led(int,int)", "int weeks(int,int,int)", "int image()", "int restore()",
        "int count(int)", "long digest()",
    };

    private static final String[] FORBIDDEN = {
        "\\bimport\\b", "\\bpackage\\b", "\\bprotected\\b", "\\bsynchronized\\b", "\\bassert\\b",
        "\\bfinally\\b", "\\btry\\b", "\\bcatch\\b", "\\bthrow\\b", "->", "::", "Exact\\(",
        "\\bstatic \\{", "\\bjava\\.", "\\bdouble\\b", "\\bfloat\\b", "@\\w+", "[^\\x00-\\x7f]",
    };

    private static int wrong = 0;

    private static void due(String what, boolean holds) {
        if (!holds) {
            wrong++;
            System.out.println("not as due: " + what);
        }
    }

    private static String told(Method m) {
        List<String> types = new ArrayList<>();
        for (Class<?> type : m.getParameterTypes()) {
            types.add(type.getName());
        }
        return m.getReturnType().getName() + " " + m.getName() + "(" + String.join(",", types) + ")";
    }

    private static void checkMethods() {
        Set<String> open = new TreeSet<>();
        Set<String> openNames = new TreeSet<>();
        for (Method m : LedWitness.class.getDeclaredMethods()) {
            if (!Modifier.isPrivate(m.getModifiers()) && !m.isSynthetic()) {
                open.add(told(m));
                openNames.add(m.getName());
                due(m.getName() + " is public", Modifier.isPublic(m.getModifiers()));
                due(m.getName() + " is not static", !Modifier.isStatic(m.getModifiers()));
            }
        }
        due("the methods are " + open, open.equals(new TreeSet<>(List.of(METHODS))));
        checkPrivateNames(LedWitness.class, openNames);
        for (Class<?> inside : LedWitness.class.getDeclaredClasses()) {
            due(inside + " is static", Modifier.isStatic(inside.getModifiers()));
            checkPrivateNames(inside, openNames);
        }
    }

    private static void checkPrivateNames(Class<?> type, Set<String> openNames) {
        for (Method m : type.getDeclaredMethods()) {
            boolean hidden = type != LedWitness.class || Modifier.isPrivate(m.getModifiers());
            due(type + "." + m.getName() + " has a name of its own", !hidden || !openNames.contains(m.getName()));
            due(type + "." + m.getName() + " takes at most seven", m.getParameterCount() <= 7);
        }
    }

    private static void checkFields() throws Exception {
        String[] names = {"NONE", "UNKNOWN", "OUTSIDE", "STATE", "FULL"};
        int[] values = {-1, -101, -102, -103, -104};
        int open = 0;
        int fields = 0;
        for (Field f : LedWitness.class.getDeclaredFields()) {
            open += Modifier.isPrivate(f.getModifiers()) ? 0 : 1;
            fields += Modifier.isStatic(f.getModifiers()) ? 0 : 1;
            due(f + " is final if static", !Modifier.isStatic(f.getModifiers()) || Modifier.isFinal(f.getModifiers()));
        }
        due("five constants are open", open == names.length);
        due("some twenty fields", fields <= 20);
        for (int i = 0; i < names.length; i++) {
            due(names[i], LedWitness.class.getField(names[i]).getInt(null) == values[i]);
        }
    }

    private static void checkSource() throws Exception {
        String text = Files.readString(Path.of(SOURCE));
        String bare = text.replaceAll("(?s)/\\*.*?\\*/", "").replaceAll("//[^\n]*", "");
        for (String pattern : FORBIDDEN) {
            Matcher found = Pattern.compile(pattern).matcher(bare);
            due("the source has " + pattern, !found.find());
        }
    }

    public static void main(String[] args) throws Exception {
        int modifiers = LedWitness.class.getModifiers();
        due("public and final", Modifier.isPublic(modifiers) && Modifier.isFinal(modifiers));
        Constructor<?>[] made = LedWitness.class.getDeclaredConstructors();
        due("one public constructor", made.length == 1 && Modifier.isPublic(made[0].getModifiers())
                && made[0].getParameterCount() == 0);
        checkMethods();
        checkFields();
        checkSource();
        System.out.println(wrong == 0 ? "the face is as due" : wrong + " things are not as due");
        if (wrong != 0) {
            System.exit(1);
        }
    }
}
