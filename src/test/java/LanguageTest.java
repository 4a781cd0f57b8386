import com.sun.source.tree.AssignmentTree;
import com.sun.source.tree.BinaryTree;
import com.sun.source.tree.ClassTree;
import com.sun.source.tree.CompoundAssignmentTree;
import com.sun.source.tree.DoWhileLoopTree;
import com.sun.source.tree.ExpressionTree;
import com.sun.source.tree.ForLoopTree;
import com.sun.source.tree.ImportTree;
import com.sun.source.tree.MemberSelectTree;
import com.sun.source.tree.MethodTree;
import com.sun.source.tree.NewArrayTree;
import com.sun.source.tree.NewClassTree;
import com.sun.source.tree.Tree;
import com.sun.source.tree.Tree.Kind;
import com.sun.source.tree.UnaryTree;
import com.sun.source.tree.VariableTree;
import com.sun.source.tree.WhileLoopTree;
import com.sun.source.util.TreePath;
import java.lang.management.ManagementFactory;
import java.nio.file.Files;
import java.nio.file.Path;
import java.util.ArrayList;
import java.util.List;
import java.util.Random;
import java.util.Set;
import java.util.TreeSet;
import javax.lang.model.element.Element;
import javax.lang.model.element.ElementKind;
import javax.lang.model.element.ExecutableElement;
import javax.lang.model.element.Modifier;
import javax.lang.model.element.TypeElement;
import javax.lang.model.element.VariableElement;
import javax.lang.model.type.ArrayType;
import javax.lang.model.type.DeclaredType;
import javax.lang.model.type.TypeKind;
import javax.lang.model.type.TypeMirror;

/** LANGUAGE.md, rule by rule, as far as a program can see it in the program. */
public final class LanguageTest {
    private static final String FACE = "[body(int), ends(int,int), fault(int), joint(int,int), matters(int,int), "
        + "may(int,int), must(int), node(int,int,int), part(int,int,int), run(int,int,int,int), say(int), "
        + "steps(int,int), told(int), unlike(int,int,int,int), uses(int,int), wipe()]";
    private static final String CONSTANTS = "[FULL = -4, NO = -5, NONE = -6, OUTSIDE = -2, UNKNOWN = -1]";
    private static final int MOST_PARAMETERS = 7, MOST_LINES = 60, MOST_DEEP = 8, MOST_CLASSES = 12, MOST_FIELDS = 20;
    /** What the library may be asked for; of Math, Integer and Long there is more, see isNumberFunction. */
    private static final Set<String> LIBRARY = Set.of("String.length", "String.charAt", "String.isEmpty",
        "String.equals", "String.indexOf", "String.substring", "String.toCharArray", "StringBuilder.append",
        "StringBuilder.charAt", "StringBuilder.setCharAt", "StringBuilder.setLength", "StringBuilder.deleteCharAt",
        "StringBuilder.reverse", "StringBuilder.length", "StringBuilder.toString", "ArrayList.add", "ArrayList.get",
        "ArrayList.set", "ArrayList.remove", "ArrayList.size", "ArrayList.isEmpty", "ArrayList.clear", "List.add",
        "List.get", "List.set", "List.remove", "List.size", "List.isEmpty", "List.clear", "List.of",
        "System.arraycopy", "Arrays.copyOf", "Arrays.copyOfRange", "Arrays.fill");
    private static final Set<String> MADE = Set.of("String", "StringBuilder", "ArrayList");
    private static final Set<String> IMPORTS = Set.of("java.util.Arrays", "java.util.ArrayList", "java.util.List",
        "java.util.Iterator");

    /** Numbers at which something ends, and those whose sums and products run over. */
    private static final int[] ODD_NUMBERS = {Integer.MIN_VALUE, Integer.MIN_VALUE + 1, -2, 7, 8, 9, 29, 30, 31, 32, 33,
        63, 64, 80, 81, 119, 120, 126, 127, 255, 256, 511, 512, 728, 729, 3599, 3600, 1 << 16, 1 << 30,
        Integer.MAX_VALUE / 3, Integer.MAX_VALUE - 1, Integer.MAX_VALUE};

    private static final Checks checks = new Checks();
    private static Source source;

    public static void main(String[] args) throws Exception {
        Path file = Path.of(args.length > 0 ? args[0] : "src/main/java/NeedTables.java");
        source = Source.of(file);
        oneFile(Files.readString(file));
        face();
        classesInside();
        types();
        library();
        staticFields();
        noThrowing();
        anyCalls();
        recursion();
        loops();
        texts();
        sizes();
        objects();
        room();
        sameAnswers();
        checks.close("LanguageTest");
    }

    private static void oneFile(String text) {
        checks.sentence("The program is one file, without a package line, one public class with the document's face");
        checks.holds("no package line", source.unit().getPackageName() == null);
        checks.due("classes that are not inside another", source.unit().getTypeDecls().size(), 1);
        for (int i = 0; i < text.length(); i++) {
            checks.holds("a plain sign, at " + i, text.charAt(i) < 127);
        }
    }

    // ---- rule 1

    private static void face() {
        checks.sentence("1. The face");
        TypeElement program = (TypeElement) source.element(source.classes().get(0));
        checks.holds("the class's name", program.getSimpleName().contentEquals("NeedTables"));
        checks.holds("public and final", program.getModifiers().equals(Set.of(Modifier.PUBLIC, Modifier.FINAL)));
        Set<String> calls = new TreeSet<>();
        Set<String> constants = new TreeSet<>();
        int constructors = 0;
        for (Element member : program.getEnclosedElements()) {
            if (!member.getModifiers().contains(Modifier.PUBLIC)) {
                checks.holds("private: " + member, member.getModifiers().contains(Modifier.PRIVATE)
                    || member.getKind().isClass() || member.getKind().isInterface());
            } else if (member.getKind() == ElementKind.METHOD) {
                calls.add(member.toString());
                checks.holds("an int, of an object: " + member,
                    ((ExecutableElement) member).getReturnType().getKind() == TypeKind.INT && !isStatic(member));
            } else if (member.getKind() == ElementKind.CONSTRUCTOR) {
                constructors++;
                checks.holds("takes nothing", ((ExecutableElement) member).getParameters().isEmpty());
            } else {
                checks.holds("static and final: " + member, isStatic(member) && isFinal(member));
                constants.add(member + " = " + ((VariableElement) member).getConstantValue());
            }
        }
        checks.holds("the calls are " + calls, calls.toString().equals(FACE));
        checks.holds("the constants are " + constants, constants.toString().equals(CONSTANTS));
        checks.due("constructors", constructors, 1);
        namesOfTheFace(calls);
    }

    private static void namesOfTheFace(Set<String> calls) {
        checks.sentence("1. No private method bears the name of a public one.");
        Set<String> names = new TreeSet<>();
        for (String call : calls) {
            names.add(call.substring(0, call.indexOf('(')));
        }
        for (TreePath path : source.all(Kind.METHOD)) {
            Element method = source.element(path);
            checks.holds("bears a name of its own: " + method, method.getModifiers().contains(Modifier.PUBLIC)
                || !names.contains(method.getSimpleName().toString()));
        }
    }

    // ---- rule 2

    private static void classesInside() {
        checks.sentence("2. Classes inside: static nested classes; no local or anonymous class, no lambda");
        List<TreePath> classes = source.classes();
        for (TreePath path : classes.subList(1, classes.size())) {
            Element own = source.element(path);
            checks.holds("stands in a class: " + own, path.getParentPath().getLeaf() instanceof ClassTree);
            checks.holds("static: " + own, isStatic(own));
            checks.holds("private or package-visible: " + own, !own.getModifiers().contains(Modifier.PUBLIC)
                && !own.getModifiers().contains(Modifier.PROTECTED));
        }
        none(Kind.LAMBDA_EXPRESSION, Kind.MEMBER_REFERENCE, Kind.ANNOTATION_TYPE, Kind.ANNOTATION);
        for (TreePath path : source.all(Kind.NEW_CLASS)) {
            checks.holds(source.told(path), ((NewClassTree) path.getLeaf()).getClassBody() == null);
        }
    }

    private static void none(Kind... kinds) {
        checks.due("there may be none of " + List.of(kinds) + ": "
            + source.all(kinds).stream().map(source::told).toList(), source.all(kinds).size(), 0);
    }

    // ---- rule 3

    private static void types() {
        checks.sentence("3. Types");
        for (TreePath path : source.all(Kind.VARIABLE, Kind.NEW_ARRAY)) {
            checks.holds(source.told(path), isAllowed(source.type(path)));
        }
        for (TreePath path : source.all(Kind.METHOD)) {
            TypeMirror answer = ((ExecutableElement) source.element(path)).getReturnType();
            checks.holds(source.told(path), answer.getKind() == TypeKind.VOID || isAllowed(answer));
        }
    }

    private static boolean isAllowed(TypeMirror type) {
        if (type.getKind() != TypeKind.ARRAY) {
            return type.getKind().isPrimitive() || isOwn(type) || isText(type) || isList(type);
        }
        TypeMirror part = ((ArrayType) type).getComponentType();
        if (part.getKind() != TypeKind.ARRAY) {
            return part.getKind().isPrimitive() || isOwn(part);
        }
        return ((ArrayType) part).getComponentType().getKind().isPrimitive();
    }

    private static boolean isOwn(TypeMirror type) {
        return type.getKind() == TypeKind.DECLARED && source.isOwn(((DeclaredType) type).asElement());
    }

    private static boolean isText(TypeMirror type) {
        return type.toString().equals("java.lang.String") || type.toString().equals("java.lang.StringBuilder");
    }

    private static boolean isList(TypeMirror type) {
        if (!type.toString().matches("java\\.util\\.(Array)?List<.*>")) {
            return false;
        }
        TypeMirror part = ((DeclaredType) type).getTypeArguments().get(0);
        return isOwn(part) || part.toString().equals("java.lang.Integer");
    }

    // ---- rule 4

    private static void library() {
        checks.sentence("4. The library: only what stands here.");
        for (ImportTree one : source.unit().getImports()) {
            checks.holds(one.toString(), !one.isStatic() && IMPORTS.contains(one.getQualifiedIdentifier().toString()));
        }
        for (TreePath path : source.all(Kind.METHOD_INVOCATION)) {
            Element called = source.element(path);
            boolean ofObject = called.getKind() == ElementKind.CONSTRUCTOR && called.toString().equals("Object()");
            checks.holds(source.told(path), ofObject || source.isOwn(called) || isInLibrary(called));
        }
        for (TreePath path : source.all(Kind.NEW_CLASS)) {
            Element made = source.element(path).getEnclosingElement();
            checks.holds(source.told(path), source.isOwn(made) || MADE.contains(made.getSimpleName().toString()));
        }
    }

    private static boolean isInLibrary(Element called) {
        String name = called.getEnclosingElement().getSimpleName() + "." + called.getSimpleName();
        return LIBRARY.contains(name) || isNumberFunction(called, name);
    }

    private static boolean isNumberFunction(Element called, String name) {
        return name.matches("(Math|Integer|Long)\\..*") && !name.endsWith("Exact") && !name.endsWith("random")
            && isStatic(called) && ((ExecutableElement) called).getParameters().stream()
                .allMatch(each -> Set.of(TypeKind.INT, TypeKind.LONG).contains(each.asType().getKind()));
    }

    // ---- rule 5

    private static void staticFields() {
        checks.sentence("5. Static fields are final; arrays written out in their initialiser and never changed.");
        for (TreePath path : source.all(Kind.VARIABLE)) {
            Element field = source.element(path);
            if (field.getKind() == ElementKind.FIELD && isStatic(field)) {
                checks.holds("final: " + source.told(path), isFinal(field));
                checks.holds("a constant: " + source.told(path), isConstant(path, (VariableElement) field));
            }
        }
        for (TreePath path : source.all(Kind.BLOCK)) {
            checks.holds("no block of a class: " + source.told(path),
                !(path.getParentPath().getLeaf() instanceof ClassTree));
        }
        for (TreePath path : source.all(Kind.IDENTIFIER, Kind.MEMBER_SELECT)) {
            Element named = source.element(path);
            if (named != null && named.getKind() == ElementKind.FIELD && isStatic(named)
                && named.asType().getKind() == TypeKind.ARRAY) {
                checks.holds("only looked into: " + source.told(path), isLookedInto(path));
            }
        }
    }

    private static boolean isConstant(TreePath path, VariableElement field) {
        if (field.asType().getKind() != TypeKind.ARRAY) {
            return field.getConstantValue() != null || field.getKind() == ElementKind.ENUM_CONSTANT;
        }
        Tree first = ((VariableTree) path.getLeaf()).getInitializer();
        return first instanceof NewArrayTree && ((NewArrayTree) first).getInitializers() != null
            && ((ArrayType) field.asType()).getComponentType().getKind().isPrimitive();
    }

    /** An array of constants is asked for its elements or its length; it is not handed on, nor put into. */
    private static boolean isLookedInto(TreePath path) {
        Tree around = path.getParentPath().getLeaf();
        if (around instanceof MemberSelectTree) {
            return ((MemberSelectTree) around).getIdentifier().contentEquals("length");
        }
        if (around.getKind() != Kind.ARRAY_ACCESS) {
            return false;
        }
        Tree user = path.getParentPath().getParentPath().getLeaf();
        boolean put = user instanceof AssignmentTree && ((AssignmentTree) user).getVariable() == around
            || user instanceof CompoundAssignmentTree && ((CompoundAssignmentTree) user).getVariable() == around
            || user instanceof UnaryTree && user.getKind().toString().contains("CREMENT");
        return !put;
    }

    // ---- rule 6

    private static void noThrowing() {
        checks.sentence("6. No throw, try, catch, synchronized, assert, switch with patterns, record patterns.");
        none(Kind.THROW, Kind.TRY, Kind.CATCH, Kind.SYNCHRONIZED, Kind.ASSERT);
        for (TreePath path : source.all(Kind.METHOD)) {
            checks.holds("throws nothing: " + source.told(path), ((MethodTree) path.getLeaf()).getThrows().isEmpty());
        }
        checks.sentence("6. a cast only behind the test that makes it safe; == never between two Strings or Integers");
        for (TreePath path : source.all(Kind.TYPE_CAST)) {
            checks.holds("a number's cast alone: " + source.told(path), source.type(path).getKind().isPrimitive());
        }
        for (TreePath path : source.all(Kind.EQUAL_TO, Kind.NOT_EQUAL_TO)) {
            BinaryTree same = (BinaryTree) path.getLeaf();
            checks.holds(source.told(path),
                !isBoxed(path, same.getLeftOperand()) && !isBoxed(path, same.getRightOperand()));
        }
        checks.sentence("6. No equals, hashCode or toString of your own objects or records");
        for (TreePath path : source.all(Kind.METHOD)) {
            checks.holds(source.told(path),
                !((MethodTree) path.getLeaf()).getName().toString().matches("equals|hashCode|toString"));
        }
    }

    private static boolean isBoxed(TreePath path, ExpressionTree side) {
        String type = source.type(path, side).toString();
        return type.equals("java.lang.String") || type.equals("java.lang.Integer");
    }

    // ---- rule 7

    private static void anyCalls() {
        checks.sentence("7. No call may ever throw or fail to end, for any arguments in any state");
        Random random = new Random(7);
        for (int object = 0; object < 2000; object++) {
            NeedTables t = new NeedTables();
            String told = "";
            for (int call = 0; call < 512; call++) {
                told = anyCall(t, random);
            }
            checks.holds("the last of 512 calls is answered: " + told, !told.isEmpty());
        }
    }

    private static String anyCall(NeedTables t, Random random) {
        int a = anyNumber(random);
        int b = anyNumber(random);
        int c = anyNumber(random);
        int d = anyNumber(random);
        switch (random.nextInt(24)) {
            case 0: return "wipe " + t.wipe();
            case 1: return "fault " + t.fault(a);
            case 2: return "body " + t.body(a & 3);
            case 3: return "body " + t.body(a);
            case 4: return "node " + t.node(a, b, c);
            case 5: return "run " + t.run(a, b, c, d);
            case 6: return "may " + t.may(a, b);
            case 7: return "must " + t.must(a);
            case 8: return "joint " + t.joint(a, b);
            case 9: return "uses " + t.uses(a, b);
            case 10: return "part " + t.part(a, b, c);
            case 11: return "ends " + t.ends(a, b);
            case 12: return "matters " + t.matters(a, b);
            case 13: return "steps " + t.steps(a, b);
            case 14: return "unlike " + t.unlike(a, b, c, d);
            case 15: return "told " + t.told(a);
            case 16: return "say " + t.say(a);
            default: return "say " + t.say("01!xyz+-*m?fghk".charAt(random.nextInt(15)));
        }
    }

    private static int anyNumber(Random random) {
        switch (random.nextInt(5)) {
            case 0: return random.nextInt();
            case 1: return ODD_NUMBERS[random.nextInt(ODD_NUMBERS.length)];
            default: return random.nextInt(6) - 1;
        }
    }

    // ---- rules 8 to 10

    private static void recursion() {
        checks.sentence("8. Recursion (there is none)");
        String ring = new CallChains(source.calls()).ring();
        checks.holds("calls itself: " + ring, ring.isEmpty());
    }

    private static void loops() {
        checks.sentence("9. Every loop has an end that can be seen from its own lines");
        for (TreePath path : source.paths) {
            Tree loop = path.getLeaf();
            ExpressionTree goesOn = null;
            if (loop instanceof ForLoopTree) {
                goesOn = ((ForLoopTree) loop).getCondition();
                checks.due("counts: " + source.told(path), ((ForLoopTree) loop).getUpdate().size(), 1);
            } else if (loop instanceof WhileLoopTree) {
                goesOn = ((WhileLoopTree) loop).getCondition();
            } else if (loop instanceof DoWhileLoopTree) {
                goesOn = ((DoWhileLoopTree) loop).getCondition();
            } else {
                continue;
            }
            checks.holds("has a bound: " + source.told(path),
                goesOn != null && goesOn.toString().matches("(?s).*(<|>|<=|>=) .*"));
        }
    }

    private static void texts() {
        checks.sentence("10. joining texts by StringBuilder (not by +)");
        for (TreePath path : source.all(Kind.PLUS, Kind.PLUS_ASSIGNMENT)) {
            checks.holds(source.told(path), source.type(path).getKind().isPrimitive());
        }
    }

    // ---- rule 11

    private static void sizes() {
        checks.sentence("11. A method takes at most seven parameters. Methods stay short (some sixty lines)");
        for (TreePath path : source.all(Kind.METHOD)) {
            checks.holds(source.told(path), ((MethodTree) path.getLeaf()).getParameters().size() <= MOST_PARAMETERS);
            checks.holds(source.told(path), source.lines(path) <= MOST_LINES);
        }
        checks.sentence("11. calls that are no recursion go at most eight deep");
        List<String> longest = new CallChains(source.calls()).longest();
        checks.holds(longest.toString(), longest.size() <= MOST_DEEP);
        checks.sentence("11. the file has at most some twelve classes, and a class some twenty fields");
        checks.holds("classes", source.classes().size() <= MOST_CLASSES);
        for (TreePath path : source.classes()) {
            int fields = 0;
            for (Element member : source.element(path).getEnclosedElements()) {
                fields += member.getKind() == ElementKind.FIELD && !isStatic(member) ? 1 : 0;
            }
            checks.holds(fields + " fields: " + source.element(path), fields <= MOST_FIELDS);
        }
    }

    // ---- rules 12 and 13

    private static void objects() {
        checks.sentence("12. An object may be made by any method (here: constructors alone make some)");
        for (TreePath path : source.all(Kind.NEW_CLASS, Kind.NEW_ARRAY)) {
            checks.holds("not in a loop: " + source.told(path), !Source.isInLoop(path));
            for (Element maker : source.workedIn(path)) {
                checks.holds("in a constructor: " + source.told(path), maker.getKind() == ElementKind.CONSTRUCTOR);
            }
        }
        checks.sentence("12. A constructor calls no method that another class could override");
        for (TreePath path : source.classes()) {
            checks.holds("final: " + source.element(path), isFinal(source.element(path)));
        }
    }

    /** Objects are small, and calls make nothing: 512 of the dearest calls fit in the one room. */
    private static void room() {
        checks.sentence("12. What a run makes is counted");
        com.sun.management.ThreadMXBean threads =
            (com.sun.management.ThreadMXBean) ManagementFactory.getThreadMXBean();
        long made = 0;
        long called = 0;
        for (int i = 0; i < 3; i++) {
            long before = threads.getCurrentThreadAllocatedBytes();
            NeedTables t = new NeedTables();
            made = threads.getCurrentThreadAllocatedBytes() - before;
            before = threads.getCurrentThreadAllocatedBytes();
            allCalls(t, null);
            called = threads.getCurrentThreadAllocatedBytes() - before;
        }
        checks.holds("an object takes " + made + " bytes", made < 4 * 14000);
        checks.holds("calls take " + called + " bytes", called < 4000);
    }

    private static void sameAnswers() {
        checks.sentence("13. the same calls always give the same answers");
        List<Integer> first = new ArrayList<>();
        List<Integer> second = new ArrayList<>();
        NeedTables one = new NeedTables();
        NeedTables other = new NeedTables();
        allCalls(one, first);
        allCalls(other, second);
        checks.holds("two new objects", !first.isEmpty() && first.equals(second));
    }

    private static void allCalls(NeedTables t, List<Integer> answers) {
        for (int function = 0; function < 4; function++) {
            keep(answers, t.say('h'));
            for (int i = 0; i < 3; i++) {
                keep(answers, t.say('x'));
            }
            keep(answers, t.fault(function));
            keep(answers, t.body(function));
            keep(answers, t.say('9'));
            keep(answers, t.wipe());
            keep(answers, t.node(function, 0, 0));
            keep(answers, t.may(function, 0));
            keep(answers, t.must(function));
            keep(answers, t.joint(function, -1));
            keep(answers, t.uses(function, 0));
            keep(answers, t.part(function, 0, 1));
            keep(answers, t.ends(function, 0));
            keep(answers, t.matters(function, 0));
            keep(answers, t.steps(function, 2));
            keep(answers, t.unlike(function, 0, 3, 0));
            keep(answers, t.run(function, 0, 0, 0));
            keep(answers, t.told(0));
        }
    }

    private static void keep(List<Integer> answers, int answer) {
        if (answers != null) {
            answers.add(answer);
        }
    }

    private static boolean isStatic(Element element) {
        return element.getModifiers().contains(Modifier.STATIC);
    }

    private static boolean isFinal(Element element) {
        return element.getModifiers().contains(Modifier.FINAL);
    }
}
