/** Each promise with ordinary inputs, the edges that the document names, and wrong inputs; worked out by hand. */
public final class PromisesTest extends Given {
    private static final int PROMISES = 17;
    private static final boolean[] tested = new boolean[PROMISES + 1];

    public static void main(String[] args) {
        newObject();
        say();
        wipe();
        fault();
        faultByDepth();
        body();
        node();
        runEnds();
        runActs();
        runWays();
        runScopes();
        runAtTheLastStep();
        runRefuses();
        may();
        leastTables();
        must();
        joint();
        uses();
        part();
        ends();
        matters();
        steps();
        unlike();
        told();
        byNeedNotByName();
        changesReachAll();
        for (int number = 1; number <= PROMISES; number++) {
            checks.holds("there is a test of promise " + number, tested[number]);
        }
        checks.close("PromisesTest");
    }

    private static void promise(int number, String words) {
        checks.sentence("Promise " + number + ": " + words);
        tested[number] = true;
    }

    private static void newObject() {
        promise(1, "All BODIES are !; the PAD is empty.");
        Subject t = new Subject();
        due("new told(0)", t.told(0), 0);
        due("new wipe", t.wipe(), 0);
        for (int function = 0; function < 4; function++) {
            due("new told", t.told(function + 1), 1);
            due("new node sign", t.node(function, 0, 0), '!');
            due("new node within", t.node(function, 0, 1), 1);
            due("new node depth", t.node(function, 0, 2), 0);
            due("new node 1", t.node(function, 1, 0), UNKNOWN);
            due("new fault", t.fault(function), 0);
            due("new body", t.body(function), NO);
            due("new joints", t.joint(function, -1), 1);
            due("new joint", t.joint(function, 0), 0);
            for (int way = 0; way < 4; way++) {
                due("new run", t.run(function, 0, way, 0), 8);
                due("new run steps", t.run(function, 0, way, 1), 1);
                due("new steps", t.steps(function, way), 0);
            }
        }
        int[] all = {1, 3, 7, 3};
        int[] rows = {8, 64, 512, 64};
        for (int function = 0; function < 4; function++) {
            due("new must", t.must(function), all[function]);
            due("new may", t.may(function, all[function]), 0);
            due("new ends", t.ends(function, 1), rows[function]);
            due("new uses", t.uses(function, 0), 0);
            due("new part", t.part(function, 0, 1), all[function]);
        }
    }

    private static void say() {
        promise(2, "A sign more: how many. OUTSIDE; FULL.");
        Subject t = new Subject();
        int[] outside = {32, 127, 0, -1, 128, 33 + 256, 120 + 65536, MIN, MAX};
        for (int sign : outside) {
            due("say outside", t.say(sign), OUTSIDE);
        }
        due("told behind outside", t.told(0), 0);
        due("say(33)", t.say(33), 1);
        due("say(126)", t.say(126), 2);
        for (int i = 3; i <= 30; i++) {
            due("say the " + i + "th", t.say('0'), i);
        }
        due("say the 31st", t.say('0'), FULL);
        due("say outside when full", t.say(127), OUTSIDE);
        due("told when full", t.told(0), 30);
    }

    private static void wipe() {
        promise(3, "The PAD is emptied: how many signs there were.");
        Subject t = with(null, null, null, "+xy");
        t.write("+1");
        due("wipe", t.wipe(), 2);
        due("wipe again", t.wipe(), 0);
        due("told(0) wiped", t.told(0), 0);
        due("bodies stay", t.told(4), 3);
        due("say behind wipe", t.say('7'), 1);
        due("fault behind wipe", t.fault(F), NONE);
        for (int i = 2; i <= 30; i++) {
            t.say('1');
        }
        due("wipe when full", t.wipe(), 30);
    }

    private static void fault() {
        promise(4, "THE FAULT of the PAD for a FUNCTION; NONE. UNKNOWN.");
        for (int function : new int[] {-1, 4, MIN, MAX}) {
            due("fault unknown", new Subject().fault(function), UNKNOWN);
        }
        due("fault of nothing", faultOf("", F), 0);
        for (char sign = 33; sign <= 126; sign++) {
            String text = String.valueOf(sign);
            for (int function = 0; function < 4; function++) {
                int want = 0;
                if ("01234567!x".indexOf(sign) >= 0 || sign == 'y' && function != F || sign == 'z' && function == H) {
                    want = NONE;
                } else if ("+-*m?fghk".indexOf(sign) >= 0) {
                    want = 1;
                }
                due("fault(" + function + ") of " + text, faultOf(text, function), want);
            }
        }
        due("one too many", faultOf("12", K), 1);
        due("one too many, unfit too", faultOf("18", K), 1);
        due("act, one text", faultOf("+1", F), 2);
        due("act, two texts", faultOf("-12", F), NONE);
        due("act, three texts", faultOf("*123", F), 3);
        due("choice, two texts", faultOf("?12", F), 3);
        due("choice, three texts", faultOf("?123", F), NONE);
        due("choice, four texts", faultOf("?1234", F), 4);
        due("f takes one", faultOf("fx", F), NONE);
        due("f takes no two", faultOf("fxx", F), 2);
        due("g takes two", faultOf("gxx", F), NONE);
        due("g takes no one", faultOf("gx", F), 2);
        due("h takes three", faultOf("hxxx", F), NONE);
        due("h takes no two", faultOf("hxx", F), 3);
        due("k takes two", faultOf("kxx", F), NONE);
        due("k takes no three", faultOf("kxxx", F), 3);
        due("y in f", faultOf("+xy", F), 2);
        due("z in g", faultOf("+zy", G), 1);
        due("z in k", faultOf("+yz", K), 2);
        due("z in h", faultOf("+yz", H), NONE);
        due("the first of two", faultOf("+8y", F), 1);
        due("unfit ahead of missing", faultOf("?8", F), 1);
        due("missing deep", faultOf("h?1+23", H), 6);
        due("full, none must come", faultOf("f" + ONES, F), NONE);
        due("full, more must come", faultOf("?" + ONES, F), 30);
        due("full, one too many", faultOf(ONES + "1", F), 29);
    }

    private static void faultByDepth() {
        promise(4, "THE FAULT of the PAD for a FUNCTION (within 9 others)");
        due("nine around a number", faultOf("+++++++++0000000000", F), NONE);
        due("nine around an argument", faultOf("fffffffffx", F), NONE);
        due("nine around nothing", faultOf("fffffffff!", F), NONE);
        due("nine around an act", faultOf("fffffffff+00", F), 9);
        due("nine around a choice", faultOf("fffffffff?000", F), 9);
        due("nine around a call", faultOf("ffffffffffx", F), 9);
        due("eight around a call", faultOf("ffffffffhxxx", F), NONE);
        due("nine around, on the right", faultOf("+0+0+0+0+0+0+0+0+00", F), NONE);
        due("ten around, on the right", faultOf("+0+0+0+0+0+0+0+0+0+00", F), 18);
        due("nine around, an act the first", faultOf("+fffffffff0", F), 9);
        due("shallow behind deep", faultOf("+ffffffff0+00", F), NONE);
    }

    private static void body() {
        promise(5, "The PAD becomes the BODY of a FUNCTION (it is empty then): its signs. UNKNOWN; NO: there is a "
            + "FAULT.");
        Subject t = new Subject();
        for (int function : new int[] {-1, 4, MIN, MAX}) {
            due("body unknown", t.body(function), UNKNOWN);
        }
        t.write("+xy");
        due("body(F) with y", t.body(F), NO);
        due("pad stays", t.told(0), 3);
        due("body stays", t.told(1), 1);
        due("body unknown with a pad", t.body(4), UNKNOWN);
        due("body(K)", t.body(K), 3);
        due("pad is empty", t.told(0), 0);
        due("nodes of K", t.told(4), 3);
        due("other bodies stay", t.told(2), 1);
        due("body of nothing", t.body(K), NO);
        due("body stays behind NO", t.node(K, 2, 0), 'y');
        t.write("7");
        due("a shorter body", t.body(K), 1);
        due("its nodes", t.told(4), 1);
        due("old nodes are gone", t.node(K, 1, 0), UNKNOWN);
        t.write("f" + ONES);
        due("a body of thirty", t.body(G), 30);
        due("its last node", t.node(G, 29, 0), '1');
        due("behind it", t.node(G, 30, 0), UNKNOWN);
        due("its nodes within f", t.node(G, 1, 1), 29);
        due("the pad is empty behind it", t.told(0), 0);
        t.write("?" + ONES);
        due("thirty, and more must come", t.body(H), NO);
        due("the pad stays", t.told(0), 30);
    }

    private static void node() {
        promise(6, "Of a NODE of a BODY: 0 its sign, 1 how many NODES it has with all within, 2 within how many others "
            + "it lies.");
        Subject t = with("?x3+1f-x1", null, "h?xyzk12+zz", null);
        int[][] f = {{'?', 9, 0}, {'x', 1, 1}, {'3', 1, 1}, {'+', 6, 1}, {'1', 1, 2}, {'f', 4, 2}, {'-', 3, 3},
            {'x', 1, 4}, {'1', 1, 4}};
        int[][] h = {{'h', 11, 0}, {'?', 4, 1}, {'x', 1, 2}, {'y', 1, 2}, {'z', 1, 2}, {'k', 3, 1}, {'1', 1, 2},
            {'2', 1, 2}, {'+', 3, 1}, {'z', 1, 2}, {'z', 1, 2}};
        nodesAre(t, F, f);
        nodesAre(t, H, h);
        due("no node", t.node(F, 9, 0), UNKNOWN);
        due("no node", t.node(F, -1, 0), UNKNOWN);
        due("no node", t.node(F, MAX, 0), UNKNOWN);
        due("no function", t.node(4, 0, 0), UNKNOWN);
        due("no function", t.node(-1, 0, 9), UNKNOWN);
        due("what 3", t.node(F, 0, 3), OUTSIDE);
        due("what -1", t.node(F, 0, -1), OUTSIDE);
        due("unknown ahead of outside", t.node(F, 9, 3), UNKNOWN);
        due("last of a deep text", with("fffffffffx", null, null, null).node(F, 9, 2), 9);
    }

    private static void nodesAre(Subject t, int function, int[][] want) {
        for (int i = 0; i < want.length; i++) {
            for (int what = 0; what < 3; what++) {
                due("node(" + function + ", " + i + ", " + what + ")", t.node(function, i, what), want[i][what]);
            }
        }
    }

    private static void runEnds() {
        promise(7, "A RUN: how it ENDS (what = 0), STEPS (1).");
        Subject t = with("x", "6", "fz", "gxy");
        for (int way = 0; way < 4; way++) {
            for (int x = 0; x < 8; x++) {
                due("a told one is itself", t.run(F, x, way, 0), x);
                due("in a step", t.run(F, x, way, 1), 1);
                due("x is the highest digit, z the lowest", t.run(H, 81 * 3 + 9 * 4 + x, way, 0), x);
            }
            due("NOTHING told", t.run(F, 8, way, 0), 8);
            due("g is 6", t.run(G, 0, way, 0), 6);
        }
        due("NOTHING is found in a step", t.run(F, 8, 0, 1), 1);
        due("NOTHING is found in a step", t.run(F, 8, 1, 1), 1);
        due("or ahead, in none", t.run(F, 8, 2, 1), 0);
        due("or ahead, since it must be", t.run(F, 8, 3, 1), 0);
        due("g does not need x", t.run(G, 80, 0, 0), 6);
        due("by need", t.run(G, 80, 1, 0), 6);
        due("ahead it looks", t.run(G, 80, 2, 0), 8);
        due("ahead it looks at y too", t.run(G, 8, 2, 0), 8);
        due("without a step", t.run(G, 8, 2, 1), 0);
        due("safe it needs none", t.run(G, 80, 3, 0), 6);
        due("in one step", t.run(G, 80, 3, 1), 1);
        due("h needs z alone", t.run(H, 728 - 8 + 5, 3, 0), 5);
        due("h: fz, x, z", t.run(H, 5, 0, 1), 3);
        due("h: fz, z, x", t.run(H, 5, 2, 1), 3);
    }

    private static void runActs() {
        promise(7, "A RUN: how it ENDS (ACTS and ?)");
        String[] acts = {"+xy", "-xy", "*xy", "mxy"};
        for (int act = 0; act < 4; act++) {
            Subject t = with(null, acts[act], null, null);
            for (int x = 0; x < 8; x++) {
                for (int y = 0; y < 8; y++) {
                    int[] want = {(x + y) % 8, (x - y + 8) % 8, x * y % 8, Math.min(x, y)};
                    due(acts[act], t.run(G, 9 * x + y, x & 3, 0), want[act]);
                    due(acts[act] + " steps", t.run(G, 9 * x + y, x & 3, 1), 3);
                }
            }
            due("second NOTHING", t.run(G, 8, 0, 1), 3);
            due("first NOTHING", t.run(G, 72, 1, 1), 2);
        }
        Subject choice = with(null, null, "?xyz", null);
        for (int x = 0; x < 8; x++) {
            due("choice", choice.run(H, 81 * x + 9 * 5 + 6, x & 3, 0), x == 0 ? 5 : 6);
            due("choice steps", choice.run(H, 81 * x + 9 * 5 + 6, x & 3, 1), 3);
        }
        due("the other is not worked", choice.run(H, 9 * 5 + 8, 1, 0), 5);
        due("the other is not worked", choice.run(H, 81 + 72 + 6, 3, 0), 6);
        due("ahead it is", choice.run(H, 9 * 5 + 8, 2, 0), 8);
        due("! ends at once", with("+!x", null, null, null).run(F, 0, 0, 1), 2);
        due("! ends the run within a call", with("+0f!", null, null, null).run(F, 0, 2, 0), 8);
        due("left over by 8 each time", with("m*77+71", null, null, null).run(F, 0, 0, 0), 0);
    }

    private static void runWays() {
        promise(7, "A RUN: STEPS (the four WAYS)");
        Subject twice = with("+xx", null, null, "f*xy");
        int[] steps = {10, 7, 7, 7};
        for (int way = 0; way < 4; way++) {
            due("twice way " + way, twice.run(K, 9 * 3 + 1, way, 0), 6);
            due("twice steps " + way, twice.run(K, 9 * 3 + 1, way, 1), steps[way]);
        }
        // g leaves y alone, so its text is worked ahead only by way 2.
        Subject left = with(null, "+xx", null, "g+12+34");
        int[] leftSteps = {1 + 1 + 2 * 4, 1 + 1 + 4 + 1, 1 + 3 + 3 + 1 + 2, 1 + 3 + 1 + 2};
        for (int way = 0; way < 4; way++) {
            due("left way " + way, left.run(K, 0, way, 0), 6);
            due("left steps " + way, left.run(K, 0, way, 1), leftSteps[way]);
        }
        // The texts of a call are worked from the left: ! ahead of + by ways 2 and 3 too.
        Subject order = with(null, "+yx", null, "g!+00");
        due("by name y first", order.run(K, 0, 0, 1), 1 + 1 + 1 + 3 + 2);
        due("by need y first", order.run(K, 0, 1, 1), 1 + 1 + 1 + 3 + 2);
        due("ahead x first", order.run(K, 0, 2, 1), 2);
        due("safe x first", order.run(K, 0, 3, 1), 2);
        Subject right = with(null, "+xy", null, "g+00!");
        due("ahead x, then y", right.run(K, 0, 2, 1), 1 + 3 + 1);
        due("safe x, then y", right.run(K, 0, 3, 1), 1 + 3 + 1);
        // In way 3 an ARGUMENT that must not be is remembered, once it is asked for.
        Subject safe = with(null, "?x0+yy", null, "gx+12");
        due("safe: by need", safe.run(K, 9, 3, 0), 6);
        due("safe: once", safe.run(K, 9, 3, 1), 1 + 1 + 2 + 1 + 1 + 3 + 1);
        due("by name: twice", safe.run(K, 9, 0, 1), 1 + 3 + 1 + 4 + 4);
        due("safe: not at all", safe.run(K, 0, 3, 1), 1 + 1 + 2 + 1);
        due("by need: not at all", safe.run(K, 0, 1, 1), 1 + 1 + 2 + 1);
        due("ahead: all the same", safe.run(K, 0, 2, 1), 1 + 1 + 3 + 2 + 1);
        // What must be told is looked at ahead, what must not be is not.
        due("safe: y NOTHING", safe.run(G, 8, 3, 0), 0);
        due("safe: x NOTHING", safe.run(G, 72, 3, 1), 0);
        due("need: x NOTHING", safe.run(G, 72, 1, 1), 2);
    }

    private static void runScopes() {
        promise(7, "A RUN: how it ENDS (texts of calls)");
        // A text of a call is worked among the ARGUMENTS of the BODY in which it is written.
        Subject swap = with(null, "-xy", null, "gyx");
        for (int way = 0; way < 4; way++) {
            due("swapped", swap.run(K, 9 * 5 + 2, way, 0), 5);
        }
        Subject nested = with("+xx", "f+xf1", null, "g-yxy");
        int want = 2 * ((7 - 3) + 2) % 8;
        for (int way = 0; way < 4; way++) {
            due("nested", nested.run(K, 9 * 3 + 7, way, 0), want);
        }
        // f asks for x four times by name, each through two texts; by need each text is worked once.
        Subject chain = with("+xx", "ffx", null, "g+120");
        due("chain by name", chain.run(K, 0, 0, 0), 4 * 3 % 8);
        due("chain by need", chain.run(K, 0, 1, 0), 4 * 3 % 8);
        // k: call; f: call, +; x -> f x: arg, call, +, x -> x -> +12: arg, text x, +, 1, 2, then arg, text x, ..
        due("chain steps by name", chain.run(K, 0, 0, 1), 1 + 1 + 1 + 2 * (1 + 1 + 1 + 2 * (1 + 1 + 3)));
        due("chain steps by need", chain.run(K, 0, 1, 1), 1 + 1 + 1 + (1 + 1 + 1 + (1 + 1 + 3) + 1) + 1);
    }

    private static void runAtTheLastStep() {
        promise(7, "A RUN: how it ENDS (behind 300 STEPS)");
        String k = sum("1", "1", "1", "1", "1", "1", "1", "1", "1", "1", "1");
        String f = sum("k00", "k00", "k00", "k00", "1", "1", "1");
        Subject t = with(f, "1", sum("f0", "f0", "f0", "1", "1"), k);
        due("k steps", t.run(K, 0, 0, 1), 21);
        due("f steps", t.run(F, 0, 0, 1), 97);
        due("300 steps", t.run(H, 0, 0, 1), 300);
        due("end with a NUMBER", t.run(H, 0, 0, 0), (3 * (4 * 11 + 3) + 2) % 8);
        t.write(sum("f0", "f0", "f0", "1", "g00"));
        t.body(H);
        due("301 steps are not taken", t.run(H, 0, 1, 1), 300);
        due("SPENT", t.run(H, 0, 1, 0), 9);
        t.write(sum("f0", "f0", "f0", "1", "!"));
        t.body(H);
        due("! as the 300th", t.run(H, 0, 1, 0), 8);
        due("! as the 300th, steps", t.run(H, 0, 1, 1), 300);
        Subject endless = with("fx", "gxgyx", "h+x1yz", "+0kxy");
        for (int way = 0; way < 4; way++) {
            for (int function = 0; function < 4; function++) {
                due("endless", endless.run(function, 0, way, 0), 9);
                due("endless steps", endless.run(function, 0, way, 1), 300);
            }
        }
        // Texts that hang on texts: each call's x asks for the x of the call ahead of it.
        Subject deep = with("?+0!xf+x1", null, null, null);
        due("! within an act", deep.run(F, 0, 1, 1), 4);
    }

    private static void runRefuses() {
        promise(7, "A RUN. UNKNOWN; OUTSIDE: ARGUMENTS, WAY 0 to 3, what.");
        Subject t = with("x", "x", "x", "x");
        int[] rows = {9, 81, 729, 81};
        for (int function = 0; function < 4; function++) {
            due("last row", t.run(function, rows[function] - 1, 0, 0), 8);
            due("behind the last row", t.run(function, rows[function], 0, 0), OUTSIDE);
            due("row -1", t.run(function, -1, 0, 0), OUTSIDE);
            due("row MIN", t.run(function, MIN, 0, 0), OUTSIDE);
            due("row MAX", t.run(function, MAX, 0, 0), OUTSIDE);
            due("way 4", t.run(function, 0, 4, 0), OUTSIDE);
            due("way -1", t.run(function, 0, -1, 0), OUTSIDE);
            due("what 2", t.run(function, 0, 0, 2), OUTSIDE);
            due("what -1", t.run(function, 0, 0, -1), OUTSIDE);
        }
        due("no function", t.run(4, 0, 0, 0), UNKNOWN);
        due("no function", t.run(-1, -1, -1, -1), UNKNOWN);
    }

    private static void may() {
        promise(8, "TABLE: whether a NUMBER MAY come, if some ARGUMENTS are there (bits): 1, 0. UNKNOWN; OUTSIDE.");
        Subject t = with("x", "?xy3", "+x?yz1", "m!x");
        int[][] want = {{0, 1}, {0, 1, 0, 1}, {0, 0, 0, 1, 0, 0, 0, 1}, {0, 0, 0, 0}};
        for (int function = 0; function < 4; function++) {
            for (int there = 0; there < want[function].length; there++) {
                due("may(" + function + ", " + there + ")", t.may(function, there), want[function][there]);
            }
            due("may behind", t.may(function, want[function].length), OUTSIDE);
            due("may -1", t.may(function, -1), OUTSIDE);
            due("may MIN", t.may(function, MIN), OUTSIDE);
            due("may MAX", t.may(function, MAX), OUTSIDE);
        }
        due("may unknown", t.may(4, 0), UNKNOWN);
        due("may unknown", t.may(-1, -1), UNKNOWN);
    }

    private static void leastTables() {
        promise(8, "TABLE: whether a NUMBER MAY come (the least ones)");
        Subject endless = with("fx", null, null, null);
        due("nothing comes of itself alone", endless.may(F, 1), 0);
        Subject ring = with("gx1", "hxyy", "kxz", "?x1fy");
        due("around a ring x may", ring.may(K, 1), 1);
        due("y alone not", ring.may(K, 2), 0);
        due("f needs x", ring.may(F, 0), 0);
        due("f by x", ring.may(F, 1), 1);
        due("h without y", ring.may(H, 1 + 4), 1);
        due("h without x", ring.may(H, 2 + 4), 0);
        Subject swap = with(null, "?xygyx", null, null);
        due("both", swap.may(G, 3), 1);
        due("x alone: y is not there, g(y, x) neither", swap.may(G, 1), 0);
        Subject third = with(null, "?x1gyx", null, null);
        due("x alone", third.may(G, 1), 1);
        due("y alone: the first must be", third.may(G, 2), 0);
        Subject useless = with("f!", "1", null, null);
        due("an unused text may be nothing", with("g!!", "1", null, null).may(F, 0), 1);
        due("a call of itself with nothing", useless.may(F, 1), 0);
    }

    private static void must() {
        promise(9, "ARGUMENTS that MUST be, as bits. UNKNOWN.");
        Subject t = with("x", "?xy3", "+x?yz1", "m!x");
        due("must F", t.must(F), 1);
        due("must G", t.must(G), 1);
        due("must H", t.must(H), 1 + 2);
        due("must K", t.must(K), 3);
        due("must unknown", t.must(4), UNKNOWN);
        due("must unknown", t.must(-1), UNKNOWN);
        due("must none", with("3", null, null, null).must(F), 0);
        due("must z", with(null, null, "z", null).must(H), 4);
        due("through a call", with(null, "y", null, "gyx").must(K), 1);
    }

    private static void joint() {
        promise(10, "JOINTS: how many (i = -1), the i-th by bits; NONE. UNKNOWN.");
        Subject t = with("3", "?0xy", "+x?0yz", "+xy");
        due("no joint", t.joint(F, -1), 0);
        due("no joint 0", t.joint(F, 0), NONE);
        due("x or y", t.joint(G, -1), 1);
        due("x and y together", t.joint(G, 0), 3);
        due("must none of them", t.must(G), 0);
        due("two of h", t.joint(H, -1), 2);
        due("x", t.joint(H, 0), 1);
        due("y with z", t.joint(H, 1), 6);
        due("no third", t.joint(H, 2), NONE);
        due("two of k", t.joint(K, -1), 2);
        due("x of k", t.joint(K, 0), 1);
        due("y of k", t.joint(K, 1), 2);
        due("joint -2", t.joint(K, -2), NONE);
        due("joint MIN", t.joint(K, MIN), NONE);
        due("joint MAX", t.joint(K, MAX), NONE);
        due("joint unknown", t.joint(4, -1), UNKNOWN);
        due("joint unknown", t.joint(-1, 0), UNKNOWN);
        Subject two = with(null, null, "+?0xy?0yz", null);
        due("pairs", two.joint(H, -1), 2);
        due("x with y", two.joint(H, 0), 3);
        due("y with z", two.joint(H, 1), 6);
        Subject three = with(null, null, "?0x?0yz", null);
        due("all three", three.joint(H, -1), 1);
        due("all three", three.joint(H, 0), 7);
        Subject pairs = with(null, null, "+?0xy+?0yz?0xz", null);
        due("three pairs", pairs.joint(H, -1), 3);
        due("3", pairs.joint(H, 0), 3);
        due("5", pairs.joint(H, 1), 5);
        due("6", pairs.joint(H, 2), 6);
    }

    private static void uses() {
        promise(11, "USES of an ARGUMENT. UNKNOWN.");
        Subject t = with("+xx", "fx", "?x+yyz", "+xgyx");
        due("f many", t.uses(F, 0), 2);
        due("g many by f", t.uses(G, 0), 2);
        due("g none", t.uses(G, 1), 0);
        due("first of a choice", t.uses(H, 0), 1);
        due("second of a choice", t.uses(H, 1), 2);
        due("third of a choice", t.uses(H, 2), 1);
        due("k x: one, none times", t.uses(K, 0), 1);
        due("k y: one, many times", t.uses(K, 1), 2);
        due("no y in f", t.uses(F, 1), UNKNOWN);
        due("no z in g", t.uses(G, 2), UNKNOWN);
        due("no z in k", t.uses(K, 2), UNKNOWN);
        due("no fourth in h", t.uses(H, 3), UNKNOWN);
        due("no argument", t.uses(H, -1), UNKNOWN);
        due("no function", t.uses(4, 0), UNKNOWN);
        due("no function", t.uses(-1, 0), UNKNOWN);
        Subject least = with("fx", "gyx", "!", "?x0kxy");
        due("itself alone: none", least.uses(F, 0), 0);
        due("in a ring: none", least.uses(G, 1), 0);
        due("! none", least.uses(H, 0), 0);
        due("once, and again by itself: many", least.uses(K, 0), 2);
        due("by itself alone: none", least.uses(K, 1), 0);
        Subject none = with("1", null, null, "f+xx");
        due("many, none times", none.uses(K, 0), 0);
        Subject greater = with("?0xx", null, null, null);
        due("the greater one, not both", greater.uses(F, 0), 1);
        due("the first and the greater one", with("?xx1", null, null, null).uses(F, 0), 2);
        Subject through = with("x", "x", null, "+fxgyy");
        due("one time one", through.uses(K, 0), 1);
        due("one time one, none times one", through.uses(K, 1), 1);
    }

    private static void part() {
        promise(12, "Whether a text at a NODE of a BODY MAY come to a NUMBER; ARGUMENTS that it MUST have, as bits. "
            + "UNKNOWN; OUTSIDE.");
        Subject t = with("?x3+1f-x1", "x", null, "?x!gy!");
        due("f root", t.part(F, 0, 0), 1);
        due("f root must", t.part(F, 0, 1), 1);
        due("f number", t.part(F, 2, 1), 0);
        due("f last x", t.part(F, 7, 1), 1);
        due("! may not", t.part(K, 2, 0), 0);
        due("! must all", t.part(K, 2, 1), 3);
        due("call may", t.part(K, 3, 0), 1);
        due("call must y", t.part(K, 3, 1), 2);
        due("unused !", t.part(K, 5, 0), 0);
        due("root must", t.part(K, 0, 1), 3);
        due("x must x", t.part(K, 1, 1), 1);
        due("h at first", t.part(H, 0, 1), 7);
        due("no node", t.part(K, 6, 0), UNKNOWN);
        due("no node", t.part(K, -1, 0), UNKNOWN);
        due("no function", t.part(4, 0, 0), UNKNOWN);
        due("no function", t.part(-1, 0, 5), UNKNOWN);
        due("what 2", t.part(K, 0, 2), OUTSIDE);
        due("what -1", t.part(K, 0, -1), OUTSIDE);
        due("unknown ahead of outside", t.part(K, 6, 2), UNKNOWN);
    }

    private static void ends() {
        promise(13, "ENDS by WAY 1: with a NUMBER (what = 0), NOTHING (1), SPENT (2). UNKNOWN; OUTSIDE.");
        Subject t = with("?x!1", "?x?y!gxy?yx1", "+x+yz", "kxy");
        due("f numbers", t.ends(F, 0), 7);
        due("f nothing", t.ends(F, 1), 1);
        due("f spent", t.ends(F, 2), 0);
        due("g numbers", t.ends(G, 0), 56);
        due("g nothing", t.ends(G, 1), 1);
        due("g spent", t.ends(G, 2), 7);
        due("h numbers", t.ends(H, 0), 512);
        due("k spent", t.ends(K, 2), 64);
        due("what 3", t.ends(F, 3), OUTSIDE);
        due("what -1", t.ends(F, -1), OUTSIDE);
        due("no function", t.ends(4, 3), UNKNOWN);
        due("no function", t.ends(-1, 0), UNKNOWN);
        Subject left = with(null, "1", null, "g!x");
        due("by way 1 the ! is left alone, by way 2 it is not", left.ends(K, 0), 64);
        due("by way 1 the ! is left alone, by way 2 it is not", left.ends(K, 1), 0);
        due("SPENT by way 2 alone", with("fx", "1", null, "gxfy").ends(K, 2), 0);
    }

    private static void matters() {
        promise(14, "Whether an ARGUMENT MATTERS: 1, 0. UNKNOWN.");
        Subject t = with("*x0", "?x1?y1!", "?-x3y0", "*4y");
        due("f: times 0", t.matters(F, 0), 0);
        due("g x", t.matters(G, 0), 1);
        due("g y: NOTHING is another end", t.matters(G, 1), 1);
        due("h x", t.matters(H, 0), 1);
        due("h y, where x is 3", t.matters(H, 1), 1);
        due("h z", t.matters(H, 2), 0);
        due("k x", t.matters(K, 0), 0);
        due("k y: odd or even", t.matters(K, 1), 1);
        due("no y in f", t.matters(F, 1), UNKNOWN);
        due("no argument", t.matters(H, 3), UNKNOWN);
        due("no argument", t.matters(H, -1), UNKNOWN);
        due("no function", t.matters(4, 0), UNKNOWN);
        due("SPENT is another end", with("?x0fx", null, null, null).matters(F, 0), 1);
        Subject rows = with("?-x77!", "?m1-y701", "?-z701", "x");
        due("only one differs", rows.matters(F, 0), 1);
        due("g x", rows.matters(G, 0), 0);
        due("g y at its greatest", rows.matters(G, 1), 1);
        due("h x", rows.matters(H, 0), 0);
        due("h z at its greatest", rows.matters(H, 2), 1);
        due("4 to 7 unlike 0 to 3", with("?x0?-x10?-x20?-x301", null, null, null).matters(F, 0), 1);
        due("by way 1, not 2", with(null, "y", null, "g!x").matters(K, 0), 1);
        due("NOTHING told is not gone through", with("0", null, null, "?0x!").matters(K, 1), 0);
    }

    private static void steps() {
        promise(15, "STEPS of a WAY. UNKNOWN; OUTSIDE.");
        Subject t = with("+xx", "?x!+1y", null, "f*xy");
        due("f", t.steps(F, 0), 8 * 3);
        for (int way = 0; way < 4; way++) {
            due("g: where way 1 ends with a NUMBER", t.steps(G, way), 56 * 5);
            due("h: never", t.steps(H, way), 0);
            due("k", t.steps(K, way), way == 0 ? 640 : 448);
        }
        due("way 4", t.steps(F, 4), OUTSIDE);
        due("way -1", t.steps(F, -1), OUTSIDE);
        due("no function", t.steps(4, 4), UNKNOWN);
        due("no function", t.steps(-1, 0), UNKNOWN);
        // Way 2 does not end with a NUMBER here, but its steps count all the same.
        Subject other = with("fx", "1", null, "gxfy");
        due("by need", other.steps(K, 1), 64 * 2);
        due("ahead, SPENT", other.steps(K, 2), 64 * 300);
        Subject nothing = with(null, "1", null, "g!x");
        due("ahead, NOTHING", nothing.steps(K, 2), 64 * 2);
    }

    private static void unlike() {
        promise(16, "UNLIKE by two WAYS: how many (what = 0), the first ARGUMENTS (1; NONE). UNKNOWN; OUTSIDE.");
        Subject t = with("x", "1", "?xyz", "?x2y");
        due("alike", t.unlike(F, 0, 2, 0), 0);
        due("none", t.unlike(F, 0, 2, 1), NONE);
        due("g: some NOTHING", t.unlike(G, 1, 2, 0), 17);
        due("g first", t.unlike(G, 1, 2, 1), 8);
        due("the other way around", t.unlike(G, 2, 1, 0), 17);
        due("h", t.unlike(H, 0, 2, 0), 8 + 7 * 8);
        due("h first", t.unlike(H, 0, 2, 1), 8);
        due("h safe", t.unlike(H, 0, 3, 0), 0);
        due("k", t.unlike(K, 1, 2, 0), 1);
        due("k first", t.unlike(K, 1, 2, 1), 8);
        for (int way = 0; way < 4; way++) {
            due("itself", t.unlike(G, way, way, 0), 0);
            due("itself", t.unlike(G, way, way, 1), NONE);
        }
        due("way 4", t.unlike(G, 4, 0, 0), OUTSIDE);
        due("other 4", t.unlike(G, 0, 4, 0), OUTSIDE);
        due("way -1", t.unlike(G, -1, 0, 0), OUTSIDE);
        due("other -1", t.unlike(G, 0, -1, 0), OUTSIDE);
        due("what 2", t.unlike(G, 0, 1, 2), OUTSIDE);
        due("what -1", t.unlike(G, 0, 1, -1), OUTSIDE);
        due("no function", t.unlike(4, 9, 9, 9), UNKNOWN);
        due("no function", t.unlike(-1, 0, 0, 0), UNKNOWN);
        Subject all = with(null, "1", null, "g!x");
        due("ahead ! or a told NOTHING, else 1", all.unlike(K, 1, 2, 0), 81);
        due("the first of all", all.unlike(K, 1, 2, 1), 0);
        due("g", all.unlike(G, 3, 2, 0), 17);
        Subject last = with("?-x7!3", null, null, "?-x4x?-y4y!");
        due("where x is NOTHING alone", last.unlike(F, 1, 2, 0), 0);
        Subject spent = with("fx", null, null, null);
        due("SPENT, and NOTHING ahead", spent.unlike(F, 1, 3, 0), 1);
        due("where x is NOTHING", spent.unlike(F, 1, 3, 1), 8);
    }

    /** f asks twice, so that eight of it within one another are SPENT by name, and are not by need. */
    private static void byNeedNotByName() {
        checks.sentence("Promises 13 to 16: by WAY 1, where WAY 0 ends otherwise");
        Subject t = with("mxx", "ffffffffy", null, null);
        due("by name", t.run(G, 5, 0, 0), 9);
        due("by need", t.run(G, 5, 1, 0), 5);
        due("each a call, m, x, x; and y", t.run(G, 5, 1, 1), 8 * 4 + 1);
        due("numbers by need", t.ends(G, 0), 64);
        due("none is SPENT", t.ends(G, 2), 0);
        due("y matters by need", t.matters(G, 1), 1);
        due("x does not", t.matters(G, 0), 0);
        due("steps by name, SPENT", t.steps(G, 0), 64 * 300);
        due("steps by need", t.steps(G, 1), 64 * (8 * 4 + 1));
        due("unlike where y is told", t.unlike(G, 0, 1, 0), 72);
        due("the first", t.unlike(G, 0, 1, 1), 0);
    }

    private static void told() {
        promise(17, "0 signs, 1 to 4 NODES of BODIES 0 to 3. OUTSIDE.");
        Subject t = with("fx", "+x+y1", "?xyz", null);
        t.write("12");
        int[] want = {2, 2, 5, 4, 1};
        for (int what = 0; what < 5; what++) {
            due("told(" + what + ")", t.told(what), want[what]);
        }
        due("told(5)", t.told(5), OUTSIDE);
        due("told(-1)", t.told(-1), OUTSIDE);
        due("told(MAX)", t.told(MAX), OUTSIDE);
        due("told(MIN)", t.told(MIN), OUTSIDE);
    }

    /** What was answered once is answered anew when a BODY that is called has changed. */
    private static void changesReachAll() {
        checks.sentence("Promises 5 to 16: what a new BODY changes");
        Subject t = with("x", null, null, "+fxfy");
        due("before", t.run(K, 11, 1, 0), 3);
        due("before", t.ends(K, 0), 64);
        due("before", t.must(K), 3);
        due("before", t.uses(K, 0), 1);
        t.write("?01!");
        due("a new f", t.body(F), 4);
        due("behind", t.run(K, 11, 1, 0), 2);
        due("behind", t.must(K), 0);
        due("behind", t.uses(K, 0), 0);
        due("behind", t.part(K, 1, 1), 0);
        t.write("!");
        t.body(F);
        due("behind !", t.run(K, 11, 1, 0), 8);
        due("behind !", t.ends(K, 0), 0);
        due("behind !", t.steps(K, 1), 0);
        due("behind !", t.joint(K, 0), 0);
        t.write("9");
        due("a refused one", t.body(F), NO);
        due("changes nothing", t.run(K, 11, 1, 1), 3);
        Subject again = with("x", "7", null, null);
        due("f may by x", again.may(F, 1), 1);
        due("f uses x", again.uses(F, 0), 1);
        again.write("fx");
        again.body(F);
        due("least anew", again.may(F, 1), 0);
        due("least anew", again.uses(F, 0), 0);
        again.write("f" + ONES);
        again.body(F);
        due("thirty signs of f leave g alone", again.node(G, 0, 0), '7');
        due("thirty signs of f leave g alone", again.run(G, 0, 1, 0), 7);
    }
}
