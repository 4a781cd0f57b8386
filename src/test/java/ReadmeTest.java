import java.lang.reflect.Method;
import java.nio.file.Files;
import java.nio.file.Path;
import java.util.ArrayList;
import java.util.Arrays;
import java.util.List;
import java.util.Map;
import java.util.Random;
import java.util.Set;
import java.util.TreeMap;
import java.util.TreeSet;
import java.util.regex.Matcher;
import java.util.regex.Pattern;

/** What README.md says is so: its example, the calls with what they answer when refused, the constants. */
public final class ReadmeTest {
    private static final Pattern CALL = Pattern.compile("t\\.(\\w+)\\(([^()]*)\\); +// (-?\\d+|[A-Z]+)\\b.*");
    private static final Pattern TEXT = Pattern.compile("for \\(char sign : \"([^\"]+)\"\\.toCharArray\\(\\)\\) \\{");
    private static final Set<String> PLAIN = Set.of("NeedTables t = new NeedTables();", "t.say(sign);", "}");
    private static final Pattern ROW = Pattern.compile("\\| `(\\w+)\\(([^()]*)\\)` \\|.*\\|([^|]*)\\|");
    private static final Pattern CONSTANT = Pattern.compile("\\| `([A-Z]+)` \\| (-\\d) \\|.*");

    private static final Checks checks = new Checks();

    public static void main(String[] args) throws Exception {
        List<String> lines = Files.readAllLines(Path.of("README.md"));
        example(lines);
        constants(lines);
        calls(lines);
        checks.sentence("how many calls an object is used for; how to run its tests");
        String text = String.join(" ", lines);
        checks.holds("512 calls", text.contains("at most 512 calls"));
        checks.holds(".ci/run", lines.contains(".ci/run"));
        checks.close("ReadmeTest");
    }

    // ---- the example

    private static void example(List<String> lines) throws Exception {
        checks.sentence("the example");
        NeedTables object = new NeedTables();
        Set<String> called = new TreeSet<>(Set.of("say", "wipe"));
        int start = lines.indexOf("```java");
        checks.holds("there is one", start >= 0);
        for (String line : lines.subList(start + 1, lines.size())) {
            if (line.equals("```")) {
                break;
            }
            Matcher call = CALL.matcher(line.strip());
            Matcher text = TEXT.matcher(line.strip());
            if (call.matches()) {
                called.add(call.group(1));
                checks.due(line, answer(object, call.group(1), call.group(2)), valueOf(call.group(3)));
            } else if (text.matches()) {
                text.group(1).chars().forEach(object::say);
            } else {
                checks.holds("a line that is not tried: " + line, PLAIN.contains(line.strip()));
            }
        }
        checks.holds("shows each call of the face but wipe: " + called, called.equals(face().keySet()));
    }

    private static int answer(NeedTables object, String name, String numbers) throws Exception {
        String[] told = numbers.isEmpty() ? new String[0] : numbers.split(", ");
        Object[] values = Arrays.stream(told).map(Integer::valueOf).toArray();
        return (int) face().get(name).invoke(object, values);
    }

    private static int valueOf(String told) throws Exception {
        return told.matches("-?\\d+") ? Integer.parseInt(told) : NeedTables.class.getField(told).getInt(null);
    }

    private static Map<String, Method> face() {
        Map<String, Method> face = new TreeMap<>();
        for (Method method : NeedTables.class.getDeclaredMethods()) {
            if (java.lang.reflect.Modifier.isPublic(method.getModifiers())) {
                face.put(method.getName(), method);
            }
        }
        return face;
    }

    // ---- the tables

    private static void constants(List<String> lines) throws Exception {
        checks.sentence("the constants");
        List<String> told = new ArrayList<>();
        for (String line : lines) {
            Matcher row = CONSTANT.matcher(line);
            if (row.matches()) {
                told.add(row.group(1));
                checks.due(row.group(1), Integer.parseInt(row.group(2)), valueOf(row.group(1)));
            }
        }
        checks.holds("all, in the order of the document: " + told,
            told.equals(List.of("UNKNOWN", "OUTSIDE", "FULL", "NO", "NONE")));
    }

    /** Calls with any numbers: what is below 0 is what the table tells, no more and no less. */
    private static void calls(List<String> lines) throws Exception {
        checks.sentence("each call of the face, what refused calls answer");
        Map<String, Set<Integer>> refused = refusedByChance();
        Set<String> told = new TreeSet<>();
        for (String line : lines) {
            Matcher row = ROW.matcher(line);
            if (row.matches() && face().containsKey(row.group(1))) {
                String name = row.group(1);
                told.add(name);
                int numbers = row.group(2).isEmpty() ? 0 : row.group(2).split(", ").length;
                checks.due(name + ": numbers", numbers, face().get(name).getParameterCount());
                Set<Integer> listed = new TreeSet<>();
                Matcher constant = Pattern.compile("`([A-Z]+)`").matcher(row.group(3));
                while (constant.find()) {
                    listed.add(valueOf(constant.group(1)));
                }
                checks.holds(name + " tells " + listed + ", answers " + refused.get(name),
                    listed.equals(refused.get(name)));
            }
        }
        checks.holds("all calls: " + told, told.equals(face().keySet()));
    }

    private static Map<String, Set<Integer>> refusedByChance() throws Exception {
        Map<String, Set<Integer>> refused = new TreeMap<>();
        List<Method> face = new ArrayList<>(face().values());
        Random random = new Random(9);
        for (Method method : face) {
            refused.put(method.getName(), new TreeSet<>());
        }
        for (int object = 0; object < 300; object++) {
            NeedTables t = new NeedTables();
            for (int call = 0; call < 512; call++) {
                Method method = face.get(random.nextInt(face.size()));
                if (random.nextInt(3) > 0 || method.getName().equals("wipe") && random.nextInt(20) > 0) {
                    method = face().get("say");
                }
                int answer = (int) method.invoke(t, anyNumbers(method, random));
                if (answer < 0) {
                    refused.get(method.getName()).add(answer);
                }
            }
        }
        return refused;
    }

    private static Object[] anyNumbers(Method method, Random random) {
        Object[] numbers = new Object[method.getParameterCount()];
        for (int i = 0; i < numbers.length; i++) {
            numbers[i] = random.nextInt(9) - 2;
        }
        if (method.getName().equals("say") && random.nextInt(20) > 0) {
            numbers[0] = (int) "01x!".charAt(random.nextInt(4));
        }
        return numbers;
    }
}
