import java.util.ArrayList;
import java.util.List;
import java.util.Random;

/** Many texts made by chance (always the same ones), each answer against that of the Oracle. */
public final class OracleTest extends Given {
    private static final int PROGRAMS = 1000;
    /** Of an object's 512 calls: what a new BODY with its questions may take, and what all ARGUMENTS take. */
    private static final int ROOM_FOR_A_CHANGE = 260, ROOM_FOR_ROWS = 50;
    private static final int LATE_PROGRAMS = 2000;
    private static final int PADS = 20000;
    private static final String SIGNS = "01234567!+-*m?fghkxyz";

    private static final Random random = new Random(20261116);

    public static void main(String[] args) {
        for (int i = 0; i < PADS; i++) {
            pad();
        }
        for (int i = 0; i < PROGRAMS; i++) {
            program(i);
        }
        for (int i = 0; i < LATE_PROGRAMS; i++) {
            lateProgram();
        }
        checks.close("OracleTest");
    }

    private static void pad() {
        Subject t = new Subject();
        StringBuilder signs = new StringBuilder();
        int most = random.nextInt(31);
        boolean steep = random.nextBoolean();
        while (signs.length() < most) {
            signs.append(random.nextInt(60) == 0 ? (char) (33 + random.nextInt(94))
                : SIGNS.charAt(steep && random.nextInt(3) > 0 ? 9 + random.nextInt(9) : random.nextInt(SIGNS.length())));
            t.say(signs.charAt(signs.length() - 1));
        }
        Oracle oracle = new Oracle();
        for (int function = 0; function < 4; function++) {
            due("fault(" + function + ") of " + signs, t.fault(function), oracle.fault(signs.toString(), function));
        }
    }

    /** A text of so many signs at the most. */
    private static String text(int function, int depth, int room) {
        if (room < 4 || depth == 9 || random.nextInt(8) == 0) {
            return leaf(function);
        }
        char sign = "+-*mm??????fghkfghk".charAt(random.nextInt(19));
        int own = Oracle.ownTexts(sign);
        StringBuilder signs = new StringBuilder().append(sign);
        int left = room - 1;
        for (int i = 0; i < own; i++) {
            int rest = own - 1 - i;
            int share = rest == 0 ? left : 1 + random.nextInt(Math.max(1, (left - rest) * 2 / (rest + 1)));
            String text = text(function, depth + 1, Math.min(share, left - rest));
            signs.append(text);
            left -= text.length();
        }
        return signs.toString();
    }

    /** A text that asks for x more than once, or one of many calls: by name such ones grow fast. */
    private static String twice() {
        String[] texts = {"mxx", "+xx", "?xxx", "fffffffx", "g+xxgxx", "+hxxxhxxx", "fgfgfgfx111"};
        return texts[random.nextInt(texts.length)];
    }

    private static String leaf(int function) {
        int chance = random.nextInt(20);
        if (chance == 0) {
            return "!";
        }
        if (chance < 7) {
            return String.valueOf((char) ('0' + (random.nextInt(3) == 0 ? random.nextInt(8) : random.nextInt(2))));
        }
        return String.valueOf("xyz".charAt(random.nextInt(Oracle.ARGUMENTS[function])));
    }

    private static void program(int number) {
        Subject t = new Subject();
        Oracle oracle = new Oracle();
        int changes = 4 + random.nextInt(3);
        int kept = random.nextInt(12);
        for (int i = 0; i < changes; i++) {
            int function = i < 4 ? i : random.nextInt(4);
            if (i < 4 && i == kept) {
                continue;
            }
            if (t.left() < ROOM_FOR_A_CHANGE + ROOM_FOR_ROWS) {
                break;
            }
            String signs = random.nextInt(6) == 0 ? twice() : text(function, 0, 1 + random.nextInt(30));
            for (int j = 0; j < signs.length(); j++) {
                due("say", t.say(signs.charAt(j)), j + 1);
            }
            due("body of " + signs, t.body(function), signs.length());
            oracle.body(function, signs);
            if (i >= 3) {
                tables(t, oracle);
                nodes(t, oracle, (number + i) % 4);
                someRuns(t, oracle);
            }
        }
        int function = number % 4;
        allArguments(t, oracle, function);
    }

    /** h makes many calls of k and f first; then comes a text made by chance, whose calls are late ones of the RUN. */
    private static void lateProgram() {
        String callsOfF = sum("f0 ".repeat(1 + random.nextInt(10)).split(" "));
        String callsOfK = sum("k00 ".repeat(1 + random.nextInt(4)).split(" "));
        String[] texts = {random.nextBoolean() ? "0" : "x", text(G, 0, 20),
            "+" + callsOfK + text(H, 1, 29 - callsOfK.length()), callsOfF};
        Subject t = with(texts[F], texts[G], texts[H], texts[K]);
        Oracle oracle = new Oracle();
        for (int function = 0; function < 4; function++) {
            oracle.body(function, texts[function]);
        }
        for (int i = 0; i < 60; i++) {
            int arguments = random.nextInt(729);
            int way = random.nextInt(4);
            int[] want = oracle.run(H, arguments, way);
            due("run(2, " + arguments + ", " + way + ") of " + List.of(texts), t.run(H, arguments, way, 0), want[0]);
            due("its steps", t.run(H, arguments, way, 1), want[1]);
        }
    }

    private static void tables(Subject t, Oracle oracle) {
        for (int function = 0; function < 4; function++) {
            int all = (1 << Oracle.ARGUMENTS[function]) - 1;
            for (int there = 0; there <= all; there++) {
                due("may", t.may(function, there), oracle.may(function, there) ? 1 : 0);
            }
            due("must", t.must(function), oracle.must(function));
            List<Integer> joints = oracle.joints(function);
            due("joints", t.joint(function, -1), joints.size());
            for (int i = 0; i < joints.size(); i++) {
                due("joint", t.joint(function, i), joints.get(i));
            }
            due("no joint", t.joint(function, joints.size()), -6);
            for (int i = 0; i < Oracle.ARGUMENTS[function]; i++) {
                due("uses", t.uses(function, i), oracle.uses(function, i));
            }
        }
    }

    private static void nodes(Subject t, Oracle oracle, int function) {
        int all = (1 << Oracle.ARGUMENTS[function]) - 1;
        List<Oracle.Text> texts = new ArrayList<>();
        oracle.bodies[function].list(texts);
        due("nodes", t.told(function + 1), texts.size());
        for (int i = 0; i < texts.size(); i++) {
            Oracle.Text text = texts.get(i);
            due("node sign", t.node(function, i, 0), text.sign);
            due("node within", t.node(function, i, 1), text.nodes());
            due("node depth", t.node(function, i, 2), text.depth);
            due("part may", t.part(function, i, 0), oracle.mayText(text, all) ? 1 : 0);
            due("part must", t.part(function, i, 1), oracle.mustText(text, function));
        }
        due("no node", t.part(function, texts.size(), 0), -1);
    }

    private static void someRuns(Subject t, Oracle oracle) {
        for (int i = 0; i < 10; i++) {
            int function = random.nextInt(4);
            int arguments = random.nextInt((int) Math.pow(9, Oracle.ARGUMENTS[function]));
            int way = random.nextInt(4);
            int[] want = oracle.run(function, arguments, way);
            due("run end", t.run(function, arguments, way, 0), want[0]);
            due("run steps", t.run(function, arguments, way, 1), want[1]);
        }
    }

    private static void allArguments(Subject t, Oracle oracle, int function) {
        int rows = (int) Math.pow(9, Oracle.ARGUMENTS[function]);
        int[][][] runs = new int[4][rows][];
        for (int way = 0; way < 4; way++) {
            for (int row = 0; row < rows; row++) {
                runs[way][row] = oracle.run(function, row, way);
            }
        }
        List<Integer> numberRows = Oracle.numberRows(function);
        int[] ends = new int[3];
        long[] steps = new long[4];
        for (int row : numberRows) {
            int end = runs[1][row][0];
            ends[Math.max(0, end - 7)]++;
            for (int way = 0; way < 4; way++) {
                steps[way] += end < 8 ? runs[way][row][1] : 0;
            }
        }
        for (int what = 0; what < 3; what++) {
            due("ends", t.ends(function, what), ends[what]);
        }
        for (int way = 0; way < 4; way++) {
            due("steps", t.steps(function, way), steps[way]);
            for (int other = 0; other < 4; other++) {
                unlike(t, function, runs, way, other);
            }
        }
        for (int i = 0; i < Oracle.ARGUMENTS[function]; i++) {
            due("matters", t.matters(function, i), matters(function, i, runs[1], numberRows) ? 1 : 0);
        }
        soundness(oracle, function, runs);
    }

    private static void unlike(Subject t, int function, int[][][] runs, int way, int other) {
        int count = 0;
        int first = -6;
        for (int row = runs[way].length - 1; row >= 0; row--) {
            if (runs[way][row][0] != runs[other][row][0]) {
                count++;
                first = row;
            }
        }
        due("unlike", t.unlike(function, way, other, 0), count);
        due("unlike first", t.unlike(function, way, other, 1), first);
    }

    private static boolean matters(int function, int argument, int[][] runs, List<Integer> numberRows) {
        int weight = (int) Math.pow(9, Oracle.ARGUMENTS[function] - 1 - argument);
        for (int row : numberRows) {
            int digit = row / weight % 9;
            for (int other = digit + 1; other < 8; other++) {
                if (runs[row][0] != runs[row + (other - digit) * weight][0]) {
                    return true;
                }
            }
        }
        return false;
    }

    /** What the tables are for: nothing comes where nothing MAY, and SAFE ends as BY NEED where that ends well. */
    private static void soundness(Oracle oracle, int function, int[][][] runs) {
        for (int row = 0; row < runs[0].length; row++) {
            int there = 0;
            int rest = row;
            for (int i = Oracle.ARGUMENTS[function] - 1; i >= 0; i--) {
                there |= rest % 9 < 8 ? 1 << i : 0;
                rest /= 9;
            }
            for (int way = 0; way < 4; way++) {
                checks.holds("a NUMBER comes only where it MAY", runs[way][row][0] >= 8 || oracle.may(function, there));
            }
            int need = runs[1][row][0];
            int safe = runs[3][row][0];
            checks.holds("SAFE is safe", need >= 8 || safe == need || safe == 9);
        }
    }
}
