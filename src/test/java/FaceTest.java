import java.io.IOException;
import java.lang.reflect.Constructor;
import java.lang.reflect.Field;
import java.lang.reflect.Method;
import java.lang.reflect.Modifier;
import java.nio.file.Files;
import java.nio.file.Path;
import java.util.TreeSet;
import java.util.regex.Matcher;
import java.util.regex.Pattern;

/** The public face of the document, and those rules of LANGUAGE.md that can be seen from outside. */
public final class FaceTest {
    private static final String[] CONSTANTS = {"UNKNOWN", "BAD_VALUE", "FULL", "NOT_POSSIBLE", "NONE"};
    private static final String[] METHODS = {"store 5", "load 4", "addAll 0", "pass 1", "wipe 0", "set 2",
        "setCounter 2", "type 1", "clearText 0", "fault 0", "undo 0", "keep 0", "restore 0", "act 2", "source 2",
        "memory 1", "counter 1", "plain 1", "count 1", "doneIn 0", "ifGuessed 2", "bestGuess 0", "leastQueue 0"};
    private static final String[] FORBIDDEN = {"\\bthrow\\b", "\\btry\\b", "\\bcatch\\b", "\\bsynchronized\\b",
        "\\bassert\\b", "->", "::", "\\bpackage\\b", "\\bhashCode\\b", "\\btoString\\b", "Exact\\b", "\\bObject\\b",
        "\\bSystem\\.(?!arraycopy\\b)", "\\bdouble\\b", "\\bfloat\\b", "\\bprotected\\b", "static\\s*\\{",
        "[^\\x00-\\x7f]"};

    public static void main(String[] args) throws IOException {
        constants();
        members();
        nestedClasses();
        source();
        Check.end("FaceTest");
    }

    private static void constants() {
        Check.due("UNKNOWN", OvertakingLoads.UNKNOWN, -1);
        Check.due("BAD_VALUE", OvertakingLoads.BAD_VALUE, -2);
        Check.due("FULL", OvertakingLoads.FULL, -3);
        Check.due("NOT_POSSIBLE", OvertakingLoads.NOT_POSSIBLE, -4);
        Check.due("NONE", OvertakingLoads.NONE, -5);
    }

    private static void members() {
        Class<?> face = OvertakingLoads.class;
        Check.holds("public and final", Modifier.isPublic(face.getModifiers()) && Modifier.isFinal(face.getModifiers()));
        Constructor<?>[] constructors = face.getDeclaredConstructors();
        Check.due("constructors", constructors.length, 1);
        Check.holds("it is public and takes nothing", Modifier.isPublic(constructors[0].getModifiers())
            && constructors[0].getParameterCount() == 0);
        TreeSet<String> due = new TreeSet<>(java.util.List.of(METHODS));
        TreeSet<String> names = new TreeSet<>();
        TreeSet<String> got = new TreeSet<>();
        for (Method method : face.getDeclaredMethods()) {
            if (!Modifier.isPrivate(method.getModifiers())) {
                Check.holds(method + " is plainly public", Modifier.isPublic(method.getModifiers())
                    && !Modifier.isStatic(method.getModifiers()) && method.getReturnType() == int.class);
                got.add(method.getName() + " " + method.getParameterCount());
                names.add(method.getName());
            }
        }
        Check.holds("methods " + got, got.equals(due));
        for (Method method : face.getDeclaredMethods()) {
            Check.holds(method + " bears a name of its own",
                Modifier.isPublic(method.getModifiers()) || !names.contains(method.getName()));
            Check.holds(method + " takes at most seven", method.getParameterCount() <= 7);
        }
        TreeSet<String> constants = new TreeSet<>();
        for (Field field : face.getDeclaredFields()) {
            if (!Modifier.isPrivate(field.getModifiers())) {
                constants.add(field.getName());
            }
            Check.holds(field + " is final if static",
                !Modifier.isStatic(field.getModifiers()) || Modifier.isFinal(field.getModifiers()));
        }
        Check.holds("constants " + constants, constants.equals(new TreeSet<>(java.util.List.of(CONSTANTS))));
    }

    private static void nestedClasses() {
        Class<?>[] nested = OvertakingLoads.class.getDeclaredClasses();
        Check.holds("some twelve classes at most", nested.length < 12);
        for (Class<?> one : nested) {
            int modifiers = one.getModifiers();
            Check.holds(one + " is static", Modifier.isStatic(modifiers));
            Check.holds(one + " is not seen", !Modifier.isPublic(modifiers) && !Modifier.isProtected(modifiers));
            Check.holds(one + " has no more than some twenty fields", one.getDeclaredFields().length <= 22);
        }
    }

    private static void source() throws IOException {
        String source = Files.readString(Path.of("src/main/java/OvertakingLoads.java"));
        String code = source.replaceAll("(?s)/\\*.*?\\*/", "").replaceAll("//[^\n]*", "");
        for (String forbidden : FORBIDDEN) {
            Matcher matcher = Pattern.compile(forbidden).matcher(code);
            Check.holds("no " + forbidden, !matcher.find());
        }
        Matcher imports = Pattern.compile("\\bimport\\s+([\\w.*]+)").matcher(code);
        while (imports.find()) {
            Check.holds("import " + imports.group(1), imports.group(1).matches("java\\.util\\.(Arrays|ArrayList|List|Iterator)"));
        }
    }
}
