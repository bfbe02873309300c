import java.io.IOException;
import java.lang.reflect.Constructor;
import java.lang.reflect.Field;
import java.lang.reflect.Method;
import java.lang.reflect.Modifier;
import java.nio.charset.StandardCharsets;
import java.nio.file.Files;
import java.nio.file.Path;
import java.util.Set;
import java.util.TreeSet;

/** The public face, and those rules of LANGUAGE.md that can be seen from outside; its argument is the source's path. */
public final class FaceTest {
    private static final String[] FACE = {
        "int hotel(int,int,int,int)", "int ofGuest(int,int)", "int ofDoing(int,int)", "int strict(int)",
        "int stars(int)", "int pleased(int,int)", "int season(int,int,int,int,int,int)", "int may(int,int,int,int,int)",
        "int ask(int)", "int dull(int)", "int fewest(int)", "int reading(int,int,boolean)", "int back(int)",
        "int limits()", "int kinds(int)", "int tastes(int)", "int charms(int)", "long odds(int,int,int,int,int,int)",
        "int sheet(int,int,int)", "int lose(int)", "int put(int,int,int)", "long cell(int,int,int)",
        "int copy(int,int,int,int,int)", "int tell(int)", "int greet(int)", "int as(int,int)", "int trace()",
        "int fault()", "int many(int)"};
    private static final String[] BARRED = {
        "\\bthrow\\b", "\\btry\\b", "\\bcatch\\b", "\\bsynchronized\\b", "\\bassert\\b", "->", "::", "\\bimport\\b",
        "\\bpackage\\b", "Exact\\(", "\\b(equals|hashCode|toString)\\s*\\(\\)\\s*\\{", "\\bSystem\\.(?!arraycopy\\b)"};

    public static void main(String[] args) throws IOException {
        constants();
        members();
        insideClasses();
        if (args.length > 0) source(Files.readString(Path.of(args[0]), StandardCharsets.ISO_8859_1));
        Due.end();
    }

    private static void constants() {
        Due.is("UNKNOWN", StarLess.UNKNOWN, -1);
        Due.is("OUTSIDE", StarLess.OUTSIDE, -2);
        Due.is("STATE", StarLess.STATE, -3);
        Due.is("FULL", StarLess.FULL, -4);
        Due.is("NONE", StarLess.NONE, -9);
        Due.is("LOST", StarLess.LOST, Long.MIN_VALUE);
    }

    private static void members() {
        Set<String> seen = new TreeSet<>();
        Set<String> hidden = new TreeSet<>();
        Set<String> open = new TreeSet<>();
        for (Method method : StarLess.class.getDeclaredMethods()) {
            if (Modifier.isPrivate(method.getModifiers())) {
                hidden.add(method.getName());
            } else {
                open.add(method.getName());
                seen.add(told(method));
            }
        }
        same("methods", seen, new TreeSet<>(Set.of(FACE)));
        hidden.retainAll(open);
        same("private methods that bear a public one's name", hidden, Set.of());
        Set<String> fields = new TreeSet<>();
        for (Field field : StarLess.class.getDeclaredFields()) {
            int how = field.getModifiers();
            if (!Modifier.isPrivate(how)) fields.add(Modifier.toString(how) + " " + field.getType() + " " + field.getName());
            if (Modifier.isStatic(how)) Due.is("a static is final: " + field, Modifier.isFinal(how) ? 1 : 0, 1);
        }
        same("fields", fields, new TreeSet<>(Set.of(
                "public static final int UNKNOWN", "public static final int OUTSIDE", "public static final int STATE",
                "public static final int FULL", "public static final int NONE", "public static final long LOST")));
        Constructor<?>[] makers = StarLess.class.getDeclaredConstructors();
        Due.is("one constructor", makers.length, 1);
        Due.is("without arguments", makers[0].getParameterCount(), 0);
        Due.is("public", makers[0].getModifiers(), Modifier.PUBLIC);
        Due.is("public and final", StarLess.class.getModifiers(), Modifier.PUBLIC | Modifier.FINAL);
    }

    private static String told(Method method) {
        StringBuilder all = new StringBuilder();
        if (method.getModifiers() != Modifier.PUBLIC) all.append(Modifier.toString(method.getModifiers())).append(' ');
        all.append(method.getReturnType()).append(' ').append(method.getName()).append('(');
        String comma = "";
        for (Class<?> type : method.getParameterTypes()) {
            all.append(comma).append(type);
            comma = ",";
        }
        return all.append(')').toString();
    }

    private static void insideClasses() {
        Class<?>[] inside = StarLess.class.getDeclaredClasses();
        Due.is("at most twelve classes", inside.length < 12 ? 1 : 0, 1);
        for (Class<?> one : inside) {
            Due.is("static: " + one, Modifier.isStatic(one.getModifiers()) ? 1 : 0, 1);
            Due.is("not public: " + one, one.getModifiers() & (Modifier.PUBLIC | Modifier.PROTECTED), 0);
            Due.is("fields of " + one, one.getDeclaredFields().length <= 20 ? 1 : 0, 1);
        }
    }

    private static void source(String text) {
        String code = text.replaceAll("(?s)/\\*.*?\\*/", "").replaceAll("//[^\n]*", "");
        for (String barred : BARRED) {
            Due.is("LANGUAGE.md bars " + barred, java.util.regex.Pattern.compile(barred).matcher(code).find() ? 1 : 0, 0);
        }
        for (int i = 0; i < text.length(); i++) {
            if (text.charAt(i) > 126) Due.is("a sign beyond 126 at " + i, text.charAt(i), 0);
        }
    }

    private static void same(String what, Set<String> seen, Set<String> want) {
        Due.is(what + ": " + seen, seen.equals(want) ? 1 : 0, 1);
    }
}
