import java.lang.management.ManagementFactory;
import java.lang.reflect.Field;
import java.lang.reflect.Method;
import java.lang.reflect.Modifier;
import java.nio.file.Files;
import java.nio.file.Path;
import java.util.Set;
import java.util.TreeSet;
import java.util.regex.Matcher;
import java.util.regex.Pattern;

/** The face, and those rules of LANGUAGE.md that can be seen by a program. */
public final class LanguageTest {
    private static final String FACE = "[body/1, ends/2, fault/1, joint/2, matters/2, may/2, must/1, node/3, part/3, "
        + "run/4, say/1, steps/2, told/1, unlike/4, uses/2, wipe/0]";
    private static final String CONSTANTS = "[FULL=-4, NO=-5, NONE=-6, OUTSIDE=-2, UNKNOWN=-1]";
    private static final String WORDS = "throw|throws|try|catch|finally|synchronized|assert|volatile|transient|native"
        + "|Object|Random|Thread|System\\.(?!arraycopy)\\w+|toString|hashCode|->|::|@\\w+|Exact\\w*";

    private static final Checks checks = new Checks();

    public static void main(String[] args) throws Exception {
        face();
        nested();
        source(Files.readString(Path.of(args.length > 0 ? args[0] : "src/main/java/NeedTables.java")));
        room();
        checks.close("LanguageTest");
    }

    private static void face() throws Exception {
        checks.holds("final and public", Modifier.isFinal(NeedTables.class.getModifiers())
            && Modifier.isPublic(NeedTables.class.getModifiers()));
        Set<String> methods = new TreeSet<>();
        for (Method method : NeedTables.class.getDeclaredMethods()) {
            if (Modifier.isPublic(method.getModifiers())) {
                methods.add(method.getName() + "/" + method.getParameterCount());
                checks.holds("answers an int: " + method, method.getReturnType() == int.class);
            } else {
                checks.holds("private: " + method, Modifier.isPrivate(method.getModifiers()));
            }
        }
        checks.holds("the face is " + methods, methods.toString().equals(FACE));
        Set<String> constants = new TreeSet<>();
        for (Field field : NeedTables.class.getDeclaredFields()) {
            if (Modifier.isPublic(field.getModifiers())) {
                constants.add(field.getName() + "=" + field.getInt(null));
            } else {
                checks.holds("private: " + field, Modifier.isPrivate(field.getModifiers()));
            }
            checks.holds("static ones are final: " + field,
                !Modifier.isStatic(field.getModifiers()) || Modifier.isFinal(field.getModifiers()));
        }
        checks.holds("the constants are " + constants, constants.toString().equals(CONSTANTS));
        checks.due("constructors", NeedTables.class.getConstructors().length, 1);
    }

    private static void nested() {
        Set<String> faceNames = new TreeSet<>();
        for (Method method : NeedTables.class.getMethods()) {
            faceNames.add(method.getName());
        }
        checks.holds("at most twelve classes", NeedTables.class.getDeclaredClasses().length < 12);
        for (Class<?> own : NeedTables.class.getDeclaredClasses()) {
            checks.holds("static: " + own, Modifier.isStatic(own.getModifiers()));
            checks.holds("not public: " + own, !Modifier.isPublic(own.getModifiers()));
            int fields = 0;
            for (Field field : own.getDeclaredFields()) {
                fields += Modifier.isStatic(field.getModifiers()) ? 0 : 1;
            }
            checks.holds("at most twenty fields: " + own, fields <= 20);
            for (Method method : own.getDeclaredMethods()) {
                checks.holds("bears no name of the face: " + method, !faceNames.contains(method.getName()));
                checks.holds("at most seven parameters: " + method, method.getParameterCount() <= 7);
            }
        }
        for (Method method : NeedTables.class.getDeclaredMethods()) {
            checks.holds("bears no name of the face: " + method,
                Modifier.isPublic(method.getModifiers()) || !faceNames.contains(method.getName()));
        }
    }

    private static void source(String source) {
        String bare = source.replaceAll("(?s)/\\*.*?\\*/", "").replaceAll("//[^\n]*", "");
        Matcher imports = Pattern.compile("import [^;]*;").matcher(bare);
        while (imports.find()) {
            checks.holds(imports.group(), imports.group().equals("import java.util.Arrays;"));
        }
        Matcher words = Pattern.compile("(?<!\\w)(?:" + WORDS + ")").matcher(bare);
        while (words.find()) {
            checks.holds("not in the language: " + words.group(), false);
        }
        checks.holds("no package", !Pattern.compile("(?m)^package ").matcher(bare).find());
        for (int i = 0; i < source.length(); i++) {
            checks.holds("plain signs", source.charAt(i) < 127);
        }
    }

    /** Objects are small, and calls make nothing: 512 of the dearest calls fit in the one room. */
    private static void room() {
        com.sun.management.ThreadMXBean threads =
            (com.sun.management.ThreadMXBean) ManagementFactory.getThreadMXBean();
        long made = 0;
        long called = 0;
        for (int i = 0; i < 3; i++) {
            long before = threads.getCurrentThreadAllocatedBytes();
            NeedTables t = new NeedTables();
            made = threads.getCurrentThreadAllocatedBytes() - before;
            before = threads.getCurrentThreadAllocatedBytes();
            allCalls(t);
            called = threads.getCurrentThreadAllocatedBytes() - before;
        }
        checks.holds("an object takes " + made + " bytes", made < 4 * 14000);
        checks.holds("calls take " + called + " bytes", called < 4000);
    }

    private static void allCalls(NeedTables t) {
        for (int function = 0; function < 4; function++) {
            t.say('h');
            for (int i = 0; i < 3; i++) {
                t.say('x');
            }
            t.fault(function);
            t.body(function);
            t.say('9');
            t.wipe();
            t.node(function, 0, 0);
            t.may(function, 0);
            t.must(function);
            t.joint(function, -1);
            t.uses(function, 0);
            t.part(function, 0, 1);
            t.ends(function, 0);
            t.matters(function, 0);
            t.steps(function, 2);
            t.unlike(function, 0, 3, 0);
            t.run(function, 0, 0, 0);
            t.told(0);
        }
    }
}
