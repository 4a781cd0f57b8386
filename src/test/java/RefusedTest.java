import java.util.ArrayList;
import java.util.List;
import java.util.function.Supplier;
import java.util.function.ToIntFunction;

/**
 * "Calls that are refused answer, the first of these that fits .. They change nothing." Each refused call is made
 * on one of two objects that are alike; behind it both must answer alike whatever they are asked.
 */
public final class RefusedTest extends Given {
    /** A call that is refused, or one that only asks, and what it answers. */
    private static final class Call {
        final String name;
        final ToIntFunction<Subject> made;
        final int answer;

        Call(String name, ToIntFunction<Subject> made, int answer) {
            this.name = name;
            this.made = made;
            this.answer = answer;
        }
    }

    private static final String[] PADS = {"", "+x", "f" + ONES, "?" + ONES, "y", "8", "fffffffff+00"};

    public static void main(String[] args) {
        checks.sentence("They change nothing.");
        for (String pad : PADS) {
            for (Call call : refusedAlways()) {
                changesNothing(pad, () -> fourBodies(pad), call);
            }
            for (Call call : refusedWith(pad)) {
                changesNothing(pad, () -> fourBodies(pad), call);
            }
        }
        for (Call call : refusedAlways()) {
            changesNothing("a new object", Subject::new, call);
        }
        checks.sentence("Calls that only ask change nothing either");
        for (String pad : new String[] {"", "+x", "f" + ONES}) {
            for (Call call : asking()) {
                changesNothing(pad, () -> fourBodies(pad), call);
            }
        }
        checks.sentence("An object is used for at most 512 calls after it has been made");
        theLastCall();
        checks.close("RefusedTest");
    }

    private static Subject fourBodies(String pad) {
        Subject made = with("?x3+1f-x1", "kx!", "?x+yz!", "?x2y");
        made.write(pad);
        return made;
    }

    private static void changesNothing(String state, Supplier<Subject> maker, Call call) {
        Subject asked = maker.get();
        Subject twin = maker.get();
        for (int time = 0; time < 2; time++) {
            due(call.name + " with " + state, call.made.applyAsInt(asked), call.answer);
        }
        List<String> after = picture(asked);
        List<String> before = picture(twin);
        checks.due(call.name + " with " + state + ": answers", after.size(), before.size());
        for (int i = 0; i < before.size(); i++) {
            checks.holds(call.name + " with " + state + " changed " + before.get(i) + " to " + after.get(i),
                before.get(i).equals(after.get(i)));
        }
    }

    /** All that can be seen of an object: PAD, BODIES, runs, tables; at last the PAD's own signs, by making it a BODY. */
    private static List<String> picture(Subject t) {
        List<String> seen = new ArrayList<>();
        for (int what = 0; what < 5; what++) {
            seen.add("told(" + what + ") " + t.told(what));
        }
        for (int function = 0; function < 4; function++) {
            seen.add("fault(" + function + ") " + t.fault(function));
            nodesOf(t, function, seen);
            tablesOf(t, function, seen);
            rowsOf(t, function, seen);
        }
        padOf(t, seen);
        return seen;
    }

    private static void nodesOf(Subject t, int function, List<String> seen) {
        int nodes = t.told(function + 1);
        for (int node = 0; node < nodes; node++) {
            seen.add("node(" + function + ", " + node + ") " + t.node(function, node, 0));
            seen.add("part(" + function + ", " + node + ") " + t.part(function, node, 1));
        }
        seen.add("nodes(" + function + ") " + t.node(function, 0, 1) + " " + t.node(function, nodes - 1, 2));
    }

    private static void tablesOf(Subject t, int function, List<String> seen) {
        for (int there = 0; there <= ALL[function]; there++) {
            seen.add("may(" + function + ", " + there + ") " + t.may(function, there));
        }
        seen.add("must(" + function + ") " + t.must(function) + " " + t.joint(function, -1) + " " + t.joint(function, 0));
        for (int argument = 0; argument < ARGUMENTS[function]; argument++) {
            seen.add("uses(" + function + ", " + argument + ") " + t.uses(function, argument)
                + " " + t.matters(function, argument));
        }
    }

    private static void rowsOf(Subject t, int function, List<String> seen) {
        for (int what = 0; what < 3; what++) {
            seen.add("ends(" + function + ", " + what + ") " + t.ends(function, what));
        }
        for (int way = 0; way < 4; way++) {
            seen.add("steps(" + function + ", " + way + ") " + t.steps(function, way));
            seen.add("unlike(" + function + ", " + way + ", 2) " + t.unlike(function, way, 2, 0));
            seen.add("run(" + function + ", 8, " + way + ") " + t.run(function, 8, way, 0) + " " + t.run(function, 5, way, 1));
        }
    }

    private static void padOf(Subject t, List<String> seen) {
        seen.add("body(3) " + t.body(K));
        signsOf(t, K, seen);
        seen.add("say " + t.say('1'));
        seen.add("body(0) " + t.body(F));
        signsOf(t, F, seen);
        seen.add("wipe " + t.wipe());
    }

    private static void signsOf(Subject t, int function, List<String> seen) {
        int nodes = t.told(function + 1);
        for (int node = 0; node < nodes; node++) {
            seen.add("sign(" + function + ", " + node + ") " + t.node(function, node, 0));
        }
    }

    // ---- refused calls

    private static List<Call> refusedAlways() {
        List<Call> calls = new ArrayList<>();
        for (int sign : new int[] {32, 127, MIN, MAX}) {
            calls.add(new Call("say(" + sign + ")", t -> t.say(sign), OUTSIDE));
        }
        for (int function : new int[] {-1, 4}) {
            addUnknown(calls, function);
        }
        addNodes(calls);
        addOutside(calls);
        return calls;
    }

    private static void addUnknown(List<Call> calls, int function) {
        calls.add(new Call("fault(" + function + ")", t -> t.fault(function), UNKNOWN));
        calls.add(new Call("body(" + function + ")", t -> t.body(function), UNKNOWN));
        for (int rest : new int[] {-9, 0, 999}) {
            String end = function + ", " + rest + ", ..)";
            calls.add(new Call("node(" + end, t -> t.node(function, rest, rest), UNKNOWN));
            calls.add(new Call("run(" + end, t -> t.run(function, rest, rest, rest), UNKNOWN));
            calls.add(new Call("may(" + end, t -> t.may(function, rest), UNKNOWN));
            calls.add(new Call("joint(" + end, t -> t.joint(function, rest), UNKNOWN));
            calls.add(new Call("uses(" + end, t -> t.uses(function, rest), UNKNOWN));
            calls.add(new Call("part(" + end, t -> t.part(function, rest, rest), UNKNOWN));
            calls.add(new Call("ends(" + end, t -> t.ends(function, rest), UNKNOWN));
            calls.add(new Call("matters(" + end, t -> t.matters(function, rest), UNKNOWN));
            calls.add(new Call("steps(" + end, t -> t.steps(function, rest), UNKNOWN));
            calls.add(new Call("unlike(" + end, t -> t.unlike(function, rest, rest, rest), UNKNOWN));
        }
        calls.add(new Call("must(" + function + ")", t -> t.must(function), UNKNOWN));
    }

    private static void addNodes(List<Call> calls) {
        for (int node : new int[] {-1, 30}) {
            for (int what : new int[] {0, 3}) {
                calls.add(new Call("node(1, " + node + ", " + what + ")", t -> t.node(G, node, what), UNKNOWN));
                calls.add(new Call("part(1, " + node + ", " + what + ")", t -> t.part(G, node, what), UNKNOWN));
            }
        }
        for (int argument : new int[] {-1, 2}) {
            calls.add(new Call("uses(1, " + argument + ")", t -> t.uses(G, argument), UNKNOWN));
            calls.add(new Call("matters(1, " + argument + ")", t -> t.matters(G, argument), UNKNOWN));
        }
    }

    private static void addOutside(List<Call> calls) {
        for (int wrong : new int[] {-1, 4}) {
            String name = "(.., " + wrong + ")";
            calls.add(new Call("node" + name, t -> t.node(G, 0, wrong), OUTSIDE));
            calls.add(new Call("run what" + name, t -> t.run(G, 0, 0, wrong), OUTSIDE));
            calls.add(new Call("run way" + name, t -> t.run(G, 0, wrong, 0), OUTSIDE));
            calls.add(new Call("may" + name, t -> t.may(G, wrong), OUTSIDE));
            calls.add(new Call("part" + name, t -> t.part(G, 0, wrong), OUTSIDE));
            calls.add(new Call("ends" + name, t -> t.ends(G, wrong), OUTSIDE));
            calls.add(new Call("steps" + name, t -> t.steps(G, wrong), OUTSIDE));
            calls.add(new Call("unlike way" + name, t -> t.unlike(G, wrong, 0, 0), OUTSIDE));
            calls.add(new Call("unlike other" + name, t -> t.unlike(G, 0, wrong, 0), OUTSIDE));
            calls.add(new Call("unlike what" + name, t -> t.unlike(G, 0, 1, wrong), OUTSIDE));
        }
        for (int row : new int[] {-1, 81}) {
            calls.add(new Call("run(1, " + row + ")", t -> t.run(G, row, 0, 0), OUTSIDE));
        }
        for (int what : new int[] {-1, 5}) {
            calls.add(new Call("told(" + what + ")", t -> t.told(what), OUTSIDE));
        }
        calls.add(new Call("joint(1, -2)", t -> t.joint(G, -2), NONE));
        calls.add(new Call("joint(1, 9)", t -> t.joint(G, 9), NONE));
    }

    /** Those that this PAD lets be refused: BODIES with a FAULT, and signs if it is full. */
    private static List<Call> refusedWith(String pad) {
        List<Call> calls = new ArrayList<>();
        if (pad.length() == 30) {
            calls.add(new Call("say('0')", t -> t.say('0'), FULL));
            calls.add(new Call("say(33)", t -> t.say(33), FULL));
            calls.add(new Call("say(126)", t -> t.say(126), FULL));
        }
        for (int function = 0; function < 4; function++) {
            int own = function;
            if (faultOf(pad, function) != NONE) {
                calls.add(new Call("body(" + function + ")", t -> t.body(own), NO));
            }
        }
        return calls;
    }

    // ---- calls that ask

    private static List<Call> asking() {
        List<Call> calls = new ArrayList<>();
        calls.add(new Call("node(0, 5, 1)", t -> t.node(F, 5, 1), 4));
        calls.add(new Call("run(0, 2, 0, 1)", t -> t.run(F, 2, 0, 1), 22));
        calls.add(new Call("run(1, 0, 2, 0)", t -> t.run(G, 0, 2, 0), 8));
        calls.add(new Call("may(3, 1)", t -> t.may(K, 1), 1));
        calls.add(new Call("must(2)", t -> t.must(H), 7));
        calls.add(new Call("joint(2, 2)", t -> t.joint(H, 2), 4));
        calls.add(new Call("uses(0, 0)", t -> t.uses(F, 0), 2));
        calls.add(new Call("part(0, 5, 1)", t -> t.part(F, 5, 1), 1));
        calls.add(new Call("ends(2, 1)", t -> t.ends(H, 1), 448));
        calls.add(new Call("matters(1, 1)", t -> t.matters(G, 1), 0));
        calls.add(new Call("steps(0, 0)", t -> t.steps(F, 0), 416));
        calls.add(new Call("unlike(3, 1, 2, 1)", t -> t.unlike(K, 1, 2, 1), 8));
        calls.add(new Call("told(1)", t -> t.told(1), 9));
        return calls;
    }

    // ---- 512 calls

    /** Whatever the 512th call is, and however the others went, it is answered as due. */
    private static void theLastCall() {
        List<Call> last = asking();
        last.addAll(refusedAlways());
        last.add(new Call("say(120)", t -> t.say(120), 1));
        last.add(new Call("wipe()", t -> t.wipe(), 0));
        last.add(new Call("fault(0)", t -> t.fault(F), 0));
        last.add(new Call("body(0)", t -> t.body(F), NO));
        for (Call call : last) {
            Subject t = fourBodies("");
            while (t.left() > 1) {
                spend(t);
            }
            due("the 512th: " + call.name, call.made.applyAsInt(t), call.answer);
            due("no call is left", t.left(), 0);
        }
    }

    private static void spend(Subject t) {
        if (t.left() > 400) {
            t.put(F, "?x3+1f-x1");
        } else if (t.left() > 350) {
            t.unlike(F, 0, 3, 0);
        } else if (t.left() % 2 == 1) {
            t.say('0');
        } else {
            t.wipe();
        }
    }
}
