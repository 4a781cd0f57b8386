/** Part 3, promises 8 to 12: each sentence that names an edge, with the last that is allowed and the first that is not. */
public final class TablesEdgesTest extends Given {
    public static void main(String[] args) {
        setsOfArguments();
        noneAndAll();
        numbersAndNothing();
        argumentsThere();
        acts();
        choices();
        calls();
        leastTablesOfThemselves();
        leastTablesOfOneAnother();
        tablesOverManyRounds();
        must();
        mustWhereNothingMay();
        jointsAreLeast();
        jointOfNone();
        jointOfAll();
        jointNumbers();
        usesOfLeaves();
        usesOfActs();
        usesOfChoices();
        usesOfCalls();
        noneTimesMany();
        twoIsTheMost();
        leastUses();
        usesRefuse();
        partMay();
        partMust();
        partRefuses();
        newBodies();
        checks.close("TablesEdgesTest");
    }

    /** The TABLE of a FUNCTION: 1 or 0 for each set, from none to all. */
    private static void table(Subject t, int function, String want) {
        due("sets of " + functionName(function), want.length(), ALL[function] + 1);
        for (int there = 0; there < want.length(); there++) {
            due("may(" + function + ", " + there + ")", t.may(function, there), want.charAt(there) - '0');
        }
    }

    private static void joints(Subject t, int function, int... want) {
        due("how many", t.joint(function, -1), want.length);
        for (int i = 0; i < want.length; i++) {
            due("joint(" + function + ", " + i + ")", t.joint(function, i), want[i]);
        }
        due("behind the last", t.joint(function, want.length), NONE);
    }

    private static void uses(Subject t, int function, String want) {
        due("ARGUMENTS of " + functionName(function), want.length(), ARGUMENTS[function]);
        for (int argument = 0; argument < want.length(); argument++) {
            due("uses(" + function + ", " + argument + ")", t.uses(function, argument), want.charAt(argument) - '0');
        }
    }

    // ---- may

    private static void setsOfArguments() {
        checks.sentence("for each FUNCTION and each set of ARGUMENTS (bits) that are there");
        Subject t = with("x", "y", "z", "x");
        for (int function = 0; function < 4; function++) {
            due("the last set", t.may(function, ALL[function]), 1);
            due("the first set", t.may(function, 0), 0);
            for (int there : new int[] {ALL[function] + 1, ALL[function] + 2, 8, -1, -8, MIN, MAX}) {
                due("may(" + function + ", " + there + ")", t.may(function, there), OUTSIDE);
            }
        }
        for (int function : NO_FUNCTIONS) {
            due("no FUNCTION", t.may(function, 0), UNKNOWN);
            due("no FUNCTION, no set", t.may(function, -1), UNKNOWN);
            due("no FUNCTION, no set", t.may(function, 8), UNKNOWN);
        }
    }

    private static void noneAndAll() {
        checks.sentence("whether a NUMBER MAY come of it (no ARGUMENT is there; all are)");
        String[] none = {"x", "+x1", "?x11", "!", "?01!"};
        int[] ofNone = {0, 0, 0, 0, 1};
        int[] ofAll = {1, 1, 1, 0, 1};
        for (int function = 0; function < 4; function++) {
            for (int i = 0; i < none.length; i++) {
                Subject t = with(function, none[i]);
                due(none[i] + " of none", t.may(function, 0), ofNone[i]);
                due(none[i] + " of all", t.may(function, ALL[function]), ofAll[i]);
            }
        }
    }

    private static void numbersAndNothing() {
        checks.sentence("A NUMBER may; ! not");
        for (int number = 0; number < 8; number++) {
            table(with(H, "" + number), H, "11111111");
        }
        table(with(H, "!"), H, "00000000");
    }

    private static void argumentsThere() {
        checks.sentence("an ARGUMENT, if it is there");
        table(with(F, "x"), F, "01");
        for (int function : new int[] {G, K}) {
            table(with(function, "x"), function, "0101");
            table(with(function, "y"), function, "0011");
        }
        table(with(H, "x"), H, "01010101");
        table(with(H, "y"), H, "00110011");
        table(with(H, "z"), H, "00001111");
    }

    private static void acts() {
        checks.sentence("an ACT, if both may");
        for (char act : "+-*m".toCharArray()) {
            table(with(G, act + "xy"), G, "0001");
            table(with(G, act + "x0"), G, "0101");
            table(with(G, act + "0x"), G, "0101");
            table(with(G, act + "0!"), G, "0000");
            table(with(G, act + "!0"), G, "0000");
            table(with(G, act + "00"), G, "1111");
        }
    }

    private static void choices() {
        checks.sentence("?, if the first may, and the second or the third");
        table(with(H, "?xyz"), H, "00010101");
        table(with(H, "?yzx"), H, "00010011");
        table(with(H, "?!11"), H, "00000000");
        table(with(H, "?0!1"), H, "11111111");
        table(with(H, "?1!1"), H, "11111111");
        table(with(H, "?11!"), H, "11111111");
        table(with(H, "?0!!"), H, "00000000");
        table(with(H, "?0xy"), H, "01110111");
        table(with(F, "?xx!"), F, "01");
    }

    private static void calls() {
        checks.sentence("a call, if its FUNCTION's TABLE has the set of those texts that may");
        Subject t = with("1", "x", "?xyz", null);
        String[] texts = {"f!", "gx!", "g!x", "gy0", "h0x!", "h0!x", "hx0!", "h!00", "hxyy", "k00"};
        String[] tables = {"1111", "0101", "0000", "0011", "0101", "0101", "0101", "0000", "0001", "0000"};
        for (int i = 0; i < texts.length; i++) {
            t.put(K, texts[i]);
            table(t, K, tables[i]);
        }
        table(with(null, "+xy", "gzx", null), H, "00000101");
        table(with(null, "?0xy", "gzx", null), H, "01011111");
    }

    private static void leastTablesOfThemselves() {
        checks.sentence("All TABLES are the least ones (where a FUNCTION calls itself)");
        table(with(F, "fx"), F, "00");
        table(with(F, "f1"), F, "00");
        table(with(F, "ffx"), F, "00");
        table(with(F, "?xfx1"), F, "01");
        table(with(F, "?fx11"), F, "00");
        table(with(F, "?0xfx"), F, "01");
        table(with(F, "?0xf1"), F, "11");
        table(with(F, "+1f1"), F, "00");
        table(with(G, "?0xgyx"), G, "0111");
        table(with(G, "?xygyx"), G, "0001");
        table(with(H, "?0xhyzx"), H, "01111111");
        table(with(H, "?x1hyzx"), H, "01010101");
    }

    private static void leastTablesOfOneAnother() {
        checks.sentence("All TABLES are the least ones (where FUNCTIONS call one another)");
        Subject ring = with("gxx", "fx", null, null);
        table(ring, F, "00");
        table(ring, G, "0000");
        ring.put(G, "?0yfx");
        table(ring, F, "01");
        table(ring, G, "0111");
        Subject four = with("gx1", "hxyy", "kxz", "?x1fy");
        table(four, F, "01");
        table(four, G, "0101");
        table(four, H, "01010101");
        table(four, K, "0101");
        Subject none = with("gx1", "hxyy", "kxz", "?fx1fy");
        table(none, F, "00");
        table(none, G, "0000");
        table(none, H, "00000000");
        table(none, K, "0000");
    }

    /** What MAY come of z waits for what MAY come of y, and that for x; each time a whole ring of calls later. */
    private static void tablesOverManyRounds() {
        checks.sentence("All TABLES are the least ones (however many rounds it takes)");
        Subject t = with("h!!x", "kxy", "?0xgyz", "hxy!");
        table(t, F, "01");
        table(t, G, "0111");
        table(t, H, "01111111");
        table(t, K, "0111");
        Subject both = with("h!xx", "kxy", "?+0x1gyz", "hxy!");
        table(both, F, "00");
        both.put(H, "?0+xzgyz");
        table(both, H, "00000101");
        table(both, F, "00");
        // All four have some sets at once, and one of them has more behind that.
        Subject atOnce = with("x", "x", "x", "?0xfy");
        table(atOnce, K, "0111");
        for (int function = 0; function < 4; function++) {
            Subject one = with("x", "x", "x", "x");
            one.put(function, "?0xf?0xf0");
            due("of none, by f of a NUMBER", one.may(function, 0), 1);
        }
        // The FUNCTIONS have 18 sets together; here each one waits for the one before it, as far as to no ARGUMENT at all.
        Subject most = with("hxxx", "+?0gffkh0xyxx+yx0", "+0?+gxy?0?xfyzkhzyyx0x", "fhxykx0");
        table(most, F, "11");
        table(most, G, "1111");
        table(most, H, "11111111");
        table(most, K, "1111");
    }

    // ---- must

    private static void must() {
        checks.sentence("An ARGUMENT MUST be: nothing MAY come of all but it");
        String[] texts = {"0", "x", "y", "z", "+xy", "?xyz", "?0xy", "+x?0yz", "+x+yz", "?x!y", "?xxy", "*0z"};
        int[] want = {0, 1, 2, 4, 3, 1, 0, 1, 7, 3, 1, 4};
        for (int i = 0; i < texts.length; i++) {
            due("must of " + texts[i], with(H, texts[i]).must(H), want[i]);
        }
        Subject t = with("x", "y", "z", "+xy");
        int[] each = {1, 2, 4, 3};
        for (int function = 0; function < 4; function++) {
            due("must(" + function + ")", t.must(function), each[function]);
        }
        due("through a call", with(null, "y", null, "gyx").must(K), 1);
        due("through calls of itself", with(G, "?0xgyx").must(G), 0);
        due("through calls of itself", with(G, "?xygyx").must(G), 3);
        for (int function : NO_FUNCTIONS) {
            due("no FUNCTION", t.must(function), UNKNOWN);
        }
    }

    private static void mustWhereNothingMay() {
        checks.sentence("nothing MAY come of all but it (nor of all)");
        Subject t = new Subject();
        for (int function = 0; function < 4; function++) {
            due("a new one", t.must(function), ALL[function]);
        }
        due("of itself", with(H, "hxyz").must(H), 7);
        due("with an ARGUMENT", with(K, "+x!").must(K), 3);
        due("a NUMBER", with(K, "+01").must(K), 0);
    }

    // ---- joints

    private static void jointsAreLeast() {
        checks.sentence("JOINTS: least sets (none within another one)");
        joints(with(H, "+x+yz"), H, 1, 2, 4);
        joints(with(H, "?xyz"), H, 1, 6);
        joints(with(H, "+y?0xz"), H, 2, 5);
        joints(with(H, "+z?0xy"), H, 3, 4);
        joints(with(H, "+?0xy?0yz"), H, 3, 6);
        joints(with(H, "+?0xy+?0yz?0xz"), H, 3, 5, 6);
        joints(with(G, "+xy"), G, 1, 2);
        joints(with(K, "y"), K, 2);
        joints(with(H, "z"), H, 4);
    }

    private static void jointOfNone() {
        checks.sentence("such that nothing MAY come of all but these (of none, if nothing MAY come at all)");
        Subject t = new Subject();
        for (int function = 0; function < 4; function++) {
            joints(t, function, 0);
        }
        joints(with(H, "+x!"), H, 0);
        joints(with(F, "fx"), F, 0);
    }

    private static void jointOfAll() {
        checks.sentence("such that nothing MAY come of all but these (all of them; none at all)");
        joints(with(H, "?0x?0yz"), H, 7);
        joints(with(G, "?0xy"), G, 3);
        joints(with(F, "x"), F, 1);
        for (int function = 0; function < 4; function++) {
            joints(with(function, "0"), function);
        }
    }

    private static void jointNumbers() {
        checks.sentence("JOINTS: how many (i = -1), the i-th by bits; NONE. UNKNOWN.");
        Subject t = with("0", "+xy", "+?0xy+?0yz?0xz", null);
        for (int i : new int[] {3, 4, 7, 8, -2, -3, MIN, MAX}) {
            due("joint(H, " + i + ")", t.joint(H, i), NONE);
        }
        due("how many", t.joint(H, -1), 3);
        due("the last", t.joint(H, 2), 6);
        due("none", t.joint(F, -1), 0);
        due("none", t.joint(F, 0), NONE);
        due("none", t.joint(F, -2), NONE);
        due("two", t.joint(G, 1), 2);
        due("no third", t.joint(G, 2), NONE);
        for (int function : NO_FUNCTIONS) {
            for (int i : new int[] {-2, -1, 0, MAX}) {
                due("no FUNCTION", t.joint(function, i), UNKNOWN);
            }
        }
    }

    // ---- uses

    private static void usesOfLeaves() {
        checks.sentence("of a NUMBER, ! none, of itself one");
        uses(with(H, "0"), H, "000");
        uses(with(H, "7"), H, "000");
        uses(with(H, "!"), H, "000");
        uses(with(H, "x"), H, "100");
        uses(with(H, "y"), H, "010");
        uses(with(H, "z"), H, "001");
        uses(with(F, "x"), F, "1");
        uses(with(K, "y"), K, "01");
    }

    private static void usesOfActs() {
        checks.sentence("of an ACT both together");
        for (char act : "+-*m".toCharArray()) {
            uses(with(H, act + "xy"), H, "110");
            uses(with(H, act + "xx"), H, "200");
            uses(with(H, act + "x0"), H, "100");
            uses(with(H, act + "0x"), H, "100");
            uses(with(H, act + "!z"), H, "001");
            uses(with(H, act + "00"), H, "000");
        }
    }

    private static void usesOfChoices() {
        checks.sentence("of ?: the first, and the greater one of the others");
        uses(with(H, "?xyz"), H, "111");
        uses(with(H, "?0xx"), H, "100");
        uses(with(H, "?0x+xx"), H, "200");
        uses(with(H, "?0+xxx"), H, "200");
        uses(with(H, "?xx0"), H, "200");
        uses(with(H, "?x0x"), H, "200");
        uses(with(H, "?x00"), H, "100");
        uses(with(H, "?+xx00"), H, "200");
        uses(with(H, "?0+xy+yz"), H, "111");
        uses(with(H, "?0+yy!"), H, "020");
    }

    private static void usesOfCalls() {
        checks.sentence("for each text its USES, as many times as its FUNCTION USES that ARGUMENT, together");
        String[] g = {"+xy", "x", "y", "+xx", "+yy", "0", "?x1y"};
        String[] xy = {"11", "10", "01", "20", "02", "00", "11"};
        String[] xx = {"20", "10", "10", "20", "20", "00", "20"};
        String[] twice = {"21", "20", "01", "20", "02", "00", "21"};
        for (int i = 0; i < g.length; i++) {
            Subject t = with(null, g[i], null, "gxy");
            uses(t, K, xy[i]);
            t.put(K, "gxx");
            uses(t, K, xx[i]);
            t.put(K, "g+xxy");
            uses(t, K, twice[i]);
        }
        uses(with("+xx", "fy", "gxz", null), H, "002");
        uses(with("x", null, "+xf+yz", null), H, "111");
    }

    private static void noneTimesMany() {
        checks.sentence("none times many is none");
        uses(with("1", null, null, "f+xx"), K, "00");
        uses(with("+xx", null, null, "f1"), K, "00");
        uses(with("!", null, null, "+xf+xx"), K, "10");
        uses(with(null, "x", null, "gx+yy"), K, "10");
        uses(with(null, "+xx", null, "gx+yy"), K, "20");
        uses(with(null, "y", null, "g+xxy"), K, "01");
    }

    private static void twoIsTheMost() {
        checks.sentence("2 is the most");
        uses(with(F, "+x+xx"), F, "2");
        uses(with(F, "++xx+xx"), F, "2");
        uses(with(F, "?+xx+xx+xx"), F, "2");
        uses(with("+xx", null, null, "f+xx"), K, "20");
        uses(with("+x+xx", null, null, "+f+xxf+yx"), K, "22");
        uses(with(null, null, "+x+yz", "h+xxxx"), K, "20");
        uses(with(H, "hhxxxxx"), H, "000");
    }

    private static void leastUses() {
        checks.sentence("They are the least ones, too");
        uses(with(F, "fx"), F, "0");
        uses(with(F, "+1fx"), F, "0");
        uses(with(F, "?0xfx"), F, "1");
        uses(with(F, "?x0fx"), F, "2");
        uses(with(F, "+fxfx"), F, "0");
        uses(with(F, "?xfxfx"), F, "2");
        uses(with(F, "?0xf+xx"), F, "2");
        uses(with(G, "gyx"), G, "00");
        uses(with(G, "?0xgyx"), G, "11");
        uses(with(G, "?x0gxy"), G, "20");
        uses(with(H, "?0xhyzx"), H, "111");
        Subject ring = with("gx1", "hyyx", "kzy", "?x0fy");
        uses(ring, F, "1");
        uses(ring, G, "11");
        uses(ring, H, "011");
        uses(ring, K, "11");
        Subject none = with("gx1", "hxyy", "kxz", "fx");
        uses(none, F, "0");
        uses(none, G, "00");
        uses(none, H, "000");
        uses(none, K, "00");
        Subject slow = with("h!!x", "kxy", "?0xgyz", "hxy!");
        uses(slow, F, "1");
        uses(slow, G, "11");
        uses(slow, H, "111");
        uses(slow, K, "11");
        slow.put(H, "?0xg+yyz");
        uses(slow, F, "2");
        uses(slow, G, "12");
        uses(slow, H, "122");
        uses(slow, K, "12");
        // Eight ARGUMENTS, from none to one to many: here each of the 16 waits for the one before it.
        Subject most = with("g0x", "hyx!", "+0?k0yzgxkz!", "++h0!yfkxx!");
        uses(most, F, "2");
        uses(most, G, "22");
        uses(most, H, "222");
        uses(most, K, "22");
    }

    private static void usesRefuse() {
        checks.sentence("USES of an ARGUMENT. UNKNOWN.");
        Subject t = with("x", "y", "z", "y");
        for (int function = 0; function < 4; function++) {
            due("the last", t.uses(function, ARGUMENTS[function] - 1), 1);
            for (int argument : new int[] {-1, ARGUMENTS[function], 3, MIN, MAX}) {
                due("uses(" + function + ", " + argument + ")", t.uses(function, argument), UNKNOWN);
            }
        }
        for (int function : NO_FUNCTIONS) {
            due("no FUNCTION", t.uses(function, 0), UNKNOWN);
            due("no FUNCTION, no ARGUMENT", t.uses(function, 3), UNKNOWN);
        }
    }

    // ---- part

    private static void partMay() {
        checks.sentence("Whether a text at a NODE of a BODY MAY come to a NUMBER, if all ARGUMENTS are there");
        Subject t = with("x", null, "+?x!0f!", "fy");
        int[] may = {0, 1, 1, 0, 1, 0, 0};
        for (int node = 0; node < may.length; node++) {
            due("part(H, " + node + ", 0)", t.part(H, node, 0), may[node]);
        }
        due("a call", t.part(K, 0, 0), 1);
        due("its text", t.part(K, 1, 0), 1);
        due("a new BODY", t.part(G, 0, 0), 0);
        Subject itself = with(F, "?xfx1");
        int[] all = {1, 1, 1, 1, 1};
        for (int node = 0; node < all.length; node++) {
            due("part(F, " + node + ", 0)", itself.part(F, node, 0), all[node]);
        }
        due("of itself alone", with(F, "+1fx").part(F, 2, 0), 0);
        due("its number", with(F, "+1fx").part(F, 1, 0), 1);
        due("the last of thirty", with(F, "f" + ONES).part(F, 29, 0), 1);
    }

    private static void partMust() {
        checks.sentence("ARGUMENTS that it MUST have, as bits: nothing MAY come of it of all but one");
        Subject t = with("x", "+xy", "?gyz!fx", "?0yx");
        int[] want = {7, 6, 2, 4, 7, 1, 1};
        for (int node = 0; node < want.length; node++) {
            due("part(H, " + node + ", 1)", t.part(H, node, 1), want[node]);
        }
        int[] choice = {0, 0, 2, 1};
        for (int node = 0; node < choice.length; node++) {
            due("part(K, " + node + ", 1)", t.part(K, node, 1), choice[node]);
        }
        due("a NUMBER", with(F, "1").part(F, 0, 1), 0);
        Subject fresh = new Subject();
        for (int function = 0; function < 4; function++) {
            due("!", fresh.part(function, 0, 1), ALL[function]);
            due("the whole text, as must", fresh.must(function), ALL[function]);
        }
    }

    private static void partRefuses() {
        checks.sentence("part: UNKNOWN; OUTSIDE");
        Subject t = with("fx", "+x+y1", null, "f" + ONES);
        int[] nodes = {2, 5, 1, 30};
        for (int function = 0; function < 4; function++) {
            int last = nodes[function] - 1;
            for (int node : new int[] {0, last}) {
                for (int what : new int[] {-1, 2, 3, MIN, MAX}) {
                    due("what " + what, t.part(function, node, what), OUTSIDE);
                }
                due("what 0", t.part(function, node, 0) >> 1, 0);
                due("what 1", t.part(function, node, 1) >> 3, 0);
            }
            for (int node : new int[] {-1, last + 1, 30, MIN, MAX}) {
                for (int what : new int[] {-1, 0, 1, 2}) {
                    due("part(" + function + ", " + node + ", " + what + ")", t.part(function, node, what), UNKNOWN);
                }
            }
        }
        for (int function : NO_FUNCTIONS) {
            due("no FUNCTION", t.part(function, 0, 0), UNKNOWN);
            due("no FUNCTION, no what", t.part(function, 0, 2), UNKNOWN);
        }
    }

    private static void newBodies() {
        checks.sentence("All TABLES are the least ones (of the BODIES that are there now)");
        Subject t = with("x", "fy", null, null);
        table(t, G, "0011");
        uses(t, G, "01");
        t.put(F, "fx");
        table(t, F, "00");
        table(t, G, "0000");
        uses(t, G, "00");
        due("must", t.must(G), 3);
        joints(t, G, 0);
        due("part", t.part(G, 0, 0), 0);
        t.put(F, "+x?01x");
        table(t, G, "0011");
        uses(t, G, "02");
        joints(t, G, 2);
        due("part", t.part(G, 0, 0), 1);
        due("part", t.part(G, 0, 1), 2);
    }
}
