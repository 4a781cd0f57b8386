/** Part 4, promises 13 to 16: each sentence that names an edge, with the last that is allowed and the first that is not. */
public final class RowsEdgesTest extends Given {
    /** ENDS with ! where all three are 7, and nowhere else. */
    private static final String LAST_ROW = "?-mxmyz7!1";
    /** ENDS with ! where all three are 0, and nowhere else. */
    private static final String FIRST_ROW = "?x?y?z!111";

    public static void main(String[] args) {
        rowsOfEnds();
        firstAndLastRow();
        endsOfWayOne();
        endsRefuse();
        mattersInTwoRows();
        mattersByEnds();
        mattersOfWayOne();
        mattersWithoutNothing();
        mattersRefuses();
        stepsOfNumbers();
        stepsOfOtherWays();
        stepsWithoutNothing();
        stepsRefuse();
        unlikeRows();
        unlikeFirst();
        unlikeEnds();
        sameWays();
        otherWayAround();
        unlikeRefuses();
        newBodies();
        checks.close("RowsEdgesTest");
    }

    private static void ends(String what, Subject t, int function, int numbers, int nothing, int spent) {
        due(what + " NUMBERS", t.ends(function, 0), numbers);
        due(what + " NOTHING", t.ends(function, 1), nothing);
        due(what + " SPENT", t.ends(function, 2), spent);
    }

    private static void unlike(String what, Subject t, int function, int way, int other, int count, int first) {
        due(what + " how many", t.unlike(function, way, other, 0), count);
        due(what + " the first", t.unlike(function, way, other, 1), first);
    }

    private static void matters(String what, Subject t, int function, int... want) {
        due(what + " ARGUMENTS", want.length, ARGUMENTS[function]);
        for (int argument = 0; argument < want.length; argument++) {
            due(what + " matters(" + function + ", " + argument + ")", t.matters(function, argument), want[argument]);
        }
    }

    // ---- ends

    private static void rowsOfEnds() {
        checks.sentence("All ARGUMENTS (0 to 7 each) are gone through");
        for (int function = 0; function < 4; function++) {
            ends("all NUMBERS", with(function, "x"), function, NUMBER_ROWS[function], 0, 0);
            ends("none asked for", with(function, "0"), function, NUMBER_ROWS[function], 0, 0);
            ends("a new one", new Subject(), function, 0, NUMBER_ROWS[function], 0);
        }
        Subject t = with("fx", "gxy", "hxyz", "kxy");
        for (int function = 0; function < 4; function++) {
            ends("endless", t, function, 0, 0, NUMBER_ROWS[function]);
        }
        ends("the last ARGUMENT", with(H, "z"), H, 512, 0, 0);
        ends("z of 0 to 7", with(H, "?z!1"), H, 448, 64, 0);
        ends("y of 0 to 7", with(H, "?y!1"), H, 448, 64, 0);
        ends("x of 0 to 7", with(H, "?x!1"), H, 448, 64, 0);
        ends("y of g", with(G, "?y!1"), G, 56, 8, 0);
    }

    private static void firstAndLastRow() {
        checks.sentence("ENDS of WAY 1: how many with a NUMBER, with NOTHING, SPENT");
        ends("the first", with(F, "?x!1"), F, 7, 1, 0);
        ends("the last", with(F, "?-x7!1"), F, 7, 1, 0);
        ends("all but the first", with(F, "?x1!"), F, 1, 7, 0);
        ends("all but the last", with(F, "?-x71!"), F, 1, 7, 0);
        ends("the first", with(H, FIRST_ROW), H, 511, 1, 0);
        ends("the last", with(H, LAST_ROW), H, 511, 1, 0);
        ends("the first SPENT", with("fx", null, FIRST_ROW.replace("!", "f0"), null), H, 511, 0, 1);
        ends("the last SPENT", with("fx", null, LAST_ROW.replace("!", "f0"), null), H, 511, 0, 1);
        ends("the last of g", with(G, "?-mxy7!1"), G, 63, 1, 0);
        ends("the first of k", with(K, "?x?y!11"), K, 63, 1, 0);
        ends("all three", with("?x!?-x7fx5", null, null, null), F, 6, 1, 1);
    }

    private static void endsOfWayOne() {
        checks.sentence("ENDS of WAY 1");
        ends("ahead there were NOTHING", with(null, "x", null, "g1?x!1"), K, 64, 0, 0);
        ends("ahead there were SPENT", with("fx", "x", null, "g1?xf01"), K, 64, 0, 0);
        ends("by name there were SPENT", with("mxx", "ffffffffy", null, null), G, 64, 0, 0);
        // By need x comes first, and is NOTHING; safe z comes first, and is SPENT.
        ends("safe there were SPENT", with("fx", null, "+?0xyz", "h!0f0"), K, 0, 64, 0);
    }

    private static void endsRefuse() {
        checks.sentence("ENDS by WAY 1: with a NUMBER (what = 0), NOTHING (1), SPENT (2). UNKNOWN; OUTSIDE.");
        Subject t = with("0", "0", "0", "0");
        for (int function = 0; function < 4; function++) {
            for (int what : new int[] {-1, 3, MIN, MAX}) {
                due("what " + what, t.ends(function, what), OUTSIDE);
            }
            due("what 0", t.ends(function, 0), NUMBER_ROWS[function]);
            due("what 2", t.ends(function, 2), 0);
        }
        for (int function : NO_FUNCTIONS) {
            due("no FUNCTION", t.ends(function, 0), UNKNOWN);
            due("no FUNCTION, no what", t.ends(function, 3), UNKNOWN);
        }
    }

    // ---- matters

    private static void mattersInTwoRows() {
        checks.sentence("an ARGUMENT such that two rows of ARGUMENTS that differ in it alone END unlike");
        matters("itself", with(F, "x"), F, 1);
        matters("not at all", with(F, "3"), F, 0);
        matters("0 alone", with(F, "?x01"), F, 1);
        matters("7 alone", with(F, "?-x701"), F, 1);
        matters("4 alone", with(F, "?-x401"), F, 1);
        matters("odd or even", with(F, "*4x"), F, 1);
        matters("times 8", with(F, "**24x"), F, 0);
        matters("x less x", with(F, "-xx"), F, 0);
        matters("in the first row alone", with(H, FIRST_ROW), H, 1, 1, 1);
        matters("in the last row alone", with(H, LAST_ROW), H, 1, 1, 1);
        matters("x, where y is 7", with(G, "?-y7x0"), G, 1, 1);
        matters("x, not y", with(G, "?-x7-yy0"), G, 0, 0);
        matters("x, not y", with(G, "?-x71-yy"), G, 1, 0);
        matters("y alone", with(H, "+y-zz"), H, 0, 1, 0);
        matters("z alone", with(H, "z"), H, 0, 0, 1);
        matters("x alone", with(H, "x"), H, 1, 0, 0);
        matters("y of k", with(K, "y"), K, 0, 1);
        matters("x by y, where both are odd", with(G, "*4*xy"), G, 1, 1);
    }

    private static void mattersByEnds() {
        checks.sentence("END unlike");
        matters("NUMBER, NOTHING", with(F, "?x!0"), F, 1);
        matters("NUMBER, SPENT", with(F, "?x0fx"), F, 1);
        matters("NOTHING, SPENT", with(F, "?x!fx"), F, 1);
        matters("all NOTHING", with(F, "?x!!"), F, 0);
        matters("all SPENT", with(F, "?xfxf1"), F, 0);
        matters("alike, in more STEPS", with(F, "?x0+00"), F, 0);
    }

    private static void mattersOfWayOne() {
        checks.sentence("END unlike by WAY 1");
        matters("ahead x would", with(null, "x", null, "g1?x!1"), K, 0, 0);
        matters("by name x would", with("mxx", null, null, "?xffffffff11"), K, 0, 0);
        matters("by name neither would", with("mxx", "ffffffffy", null, null), G, 0, 1);
    }

    private static void mattersWithoutNothing() {
        checks.sentence("All ARGUMENTS (0 to 7 each) are gone through (8 is not)");
        matters("NOTHING would", with(F, "*x0"), F, 0);
        matters("NOTHING would", with(G, "*x*y0"), G, 0, 0);
        matters("NOTHING would", with(H, "*x*y*z0"), H, 0, 0, 0);
    }

    private static void mattersRefuses() {
        checks.sentence("Whether an ARGUMENT MATTERS: 1, 0. UNKNOWN.");
        Subject t = with("x", "y", "z", "y");
        for (int function = 0; function < 4; function++) {
            due("the last", t.matters(function, ARGUMENTS[function] - 1), 1);
            for (int argument : new int[] {-1, ARGUMENTS[function], 3, MIN, MAX}) {
                due("matters(" + function + ", " + argument + ")", t.matters(function, argument), UNKNOWN);
            }
        }
        for (int function : NO_FUNCTIONS) {
            due("no FUNCTION", t.matters(function, 0), UNKNOWN);
            due("no FUNCTION, no ARGUMENT", t.matters(function, 3), UNKNOWN);
        }
    }

    // ---- steps

    private static void steps(String what, Subject t, int function, int... want) {
        for (int way = 0; way < 4; way++) {
            due(what + " way " + way, t.steps(function, way), want[want.length == 1 ? 0 : way]);
        }
    }

    private static void stepsOfNumbers() {
        checks.sentence("STEPS of a WAY: all STEPS of RUNS that END with a NUMBER by WAY 1, together");
        for (int function = 0; function < 4; function++) {
            steps("one each", with(function, "x"), function, NUMBER_ROWS[function]);
            steps("none", new Subject(), function, 0);
        }
        steps("all but the first", with(F, "?x!1"), F, 7 * 3);
        steps("all but the last", with(F, "?-x7!1"), F, 7 * 5);
        steps("the first alone", with(F, "?x5!"), F, 3);
        steps("the last alone", with(F, "?-x75!"), F, 5);
        steps("all SPENT", with(F, "fx"), F, 0);
        steps("SPENT where x is not 0", with(F, "?x0fx"), F, 3);
        steps("the last row is none", with(H, LAST_ROW), H, 511 * 9);
        steps("each in its own", with(null, null, null, "?x+00?y0!"), K, 8 * 5 + 7 * 5);
    }

    private static void stepsOfOtherWays() {
        checks.sentence("all STEPS of RUNS that END with a NUMBER by WAY 1 (however they END by the WAY itself)");
        steps("twice by name", with("+xx", null, null, "f*xy"), K, 640, 448, 448, 448);
        steps("NOTHING ahead", with(null, "x", null, "g1?x!1"), K, 192, 192, 8 * 5 + 56 * 6, 192);
        steps("SPENT ahead", with("fx", "1", null, "gxfy"), K, 128, 128, 64 * 300, 128);
        steps("SPENT by name", with("mxx", "ffffffffy", null, null), G, 64 * 300, 64 * 33, 64 * 33, 64 * 33);
        steps("512 of 300", with("fx", "1", "gxf0", null), H, 512 * 2, 512 * 2, 512 * 300, 512 * 2);
    }

    private static void stepsWithoutNothing() {
        checks.sentence("All ARGUMENTS (0 to 7 each) are gone through (STEPS of other rows do not count)");
        for (int function = 0; function < 4; function++) {
            steps("one each, though 8 would END with a NUMBER", with(function, "1"), function, NUMBER_ROWS[function]);
        }
    }

    private static void stepsRefuse() {
        checks.sentence("STEPS of a WAY. UNKNOWN; OUTSIDE.");
        Subject t = with("x", "x", "x", "x");
        for (int function = 0; function < 4; function++) {
            for (int way : new int[] {-1, 4, MIN, MAX}) {
                due("way " + way, t.steps(function, way), OUTSIDE);
            }
            due("way 0", t.steps(function, 0), NUMBER_ROWS[function]);
            due("way 3", t.steps(function, 3), NUMBER_ROWS[function]);
        }
        for (int function : NO_FUNCTIONS) {
            due("no FUNCTION", t.steps(function, 0), UNKNOWN);
            due("no FUNCTION, no way", t.steps(function, 4), UNKNOWN);
        }
    }

    // ---- unlike

    private static void unlikeRows() {
        checks.sentence("of all ARGUMENTS (0 to 8 each) those by which two WAYS do not END alike");
        for (int function = 0; function < 4; function++) {
            int someNothing = TOLD_ROWS[function] - NUMBER_ROWS[function];
            unlike("where one is 8", with(function, "0"), function, 1, 2, someNothing, 8);
        }
        unlike("y is 8, x is not", with(G, "x"), G, 1, 2, 8, 8);
        unlike("x is 8, y is not", with(G, "y"), G, 1, 2, 8, 72);
        unlike("x is 8, y and z are not", with(H, "+yz"), H, 1, 2, 64, 648);
        unlike("y is 8, x and z are not", with(H, "+xz"), H, 1, 2, 64, 72);
        unlike("z is 8, x and y are not", with(H, "+xy"), H, 1, 2, 64, 8);
        unlike("alike where 8 is asked for", with(H, "+x+yz"), H, 1, 2, 0, NONE);
        Subject all = with(null, "1", "g!0", "g!x");
        unlike("all of them", all, H, 1, 2, 729, 0);
        unlike("all of them", all, K, 0, 2, 81, 0);
        unlike("all of them", all, K, 3, 2, 81, 0);
    }

    private static void unlikeFirst() {
        checks.sentence("how many, the first one");
        unlike("the last of f", with(F, "fx"), F, 1, 3, 1, 8);
        unlike("the first of f", with("?x2x", "1", null, null), F, 1, 2, 0, NONE);
        // Where both are 0, and where x is 1 to 7 and y, not asked for, is 8.
        unlike("the first of k", with(null, "1", null, "?x?yg!011"), K, 1, 2, 1 + 7, 0);
        unlike("only where x is 7", with(null, "1", null, "?-x7+yg!0+xy"), K, 1, 2, 8, 63);
        unlike("only where x is 7 and y 7", with(null, "1", null, "?-x7?-y7g!01+xy"), K, 1, 2, 1, 70);
    }

    private static void unlikeEnds() {
        checks.sentence("two WAYS do not END alike (in as many STEPS or not)");
        unlike("more STEPS", with("+xx", null, null, "f*xy"), K, 0, 1, 0, NONE);
        unlike("SPENT or a NUMBER", with("mxx", "ffffffffy", null, null), G, 0, 1, 72, 0);
        unlike("SPENT or NOTHING", with("fx", null, null, null), F, 0, 2, 1, 8);
        unlike("NOTHING or a NUMBER", with("1", null, null, null), F, 0, 2, 1, 8);
        unlike("safe or by need", with("fx", null, "+?0xyz", "h!0f0"), K, 1, 3, 64, 0);
        unlike("safe or ahead", with("fx", null, "+?0xyz", "h!0f0"), K, 2, 3, 64, 0);
        unlike("by name or by need", with("fx", null, "+?0xyz", "h!0f0"), K, 0, 1, 0, NONE);
    }

    private static void sameWays() {
        checks.sentence("UNLIKE by two WAYS (that are the same)");
        Subject t = with("?x!?-x7fx5", "1", "g!x", "?0xy");
        for (int function = 0; function < 4; function++) {
            for (int way = 0; way < 4; way++) {
                unlike("the same", t, function, way, way, 0, NONE);
            }
        }
    }

    private static void otherWayAround() {
        checks.sentence("UNLIKE by two WAYS: how many (what = 0), the first ARGUMENTS (1; NONE)");
        Subject t = with("fx", "1", "g!x", "gxfy");
        for (int function = 0; function < 4; function++) {
            for (int way = 0; way < 4; way++) {
                for (int other = 0; other < way; other++) {
                    for (int what = 0; what < 2; what++) {
                        due("the other way around", t.unlike(function, way, other, what),
                            t.unlike(function, other, way, what));
                    }
                }
            }
        }
        due("none: 0", t.unlike(F, 0, 1, 0), 0);
        due("none: NONE", t.unlike(F, 0, 1, 1), NONE);
    }

    private static void unlikeRefuses() {
        checks.sentence("UNLIKE by two WAYS. UNKNOWN; OUTSIDE.");
        Subject t = with("1", "1", "1", "1");
        for (int function = 0; function < 4; function++) {
            for (int wrong : new int[] {-1, 4, MIN, MAX}) {
                for (int what = 0; what < 2; what++) {
                    due("way " + wrong, t.unlike(function, wrong, 0, what), OUTSIDE);
                    due("other " + wrong, t.unlike(function, 0, wrong, what), OUTSIDE);
                    due("both " + wrong, t.unlike(function, wrong, wrong, what), OUTSIDE);
                }
            }
            for (int what : new int[] {-1, 2, MIN, MAX}) {
                due("what " + what, t.unlike(function, 0, 3, what), OUTSIDE);
                due("what " + what + ", the same", t.unlike(function, 1, 1, what), OUTSIDE);
            }
            due("way 0, other 3", t.unlike(function, 0, 3, 0), 0);
            due("way 3, other 0", t.unlike(function, 3, 0, 1), NONE);
        }
        for (int function : NO_FUNCTIONS) {
            due("no FUNCTION", t.unlike(function, 0, 1, 0), UNKNOWN);
            due("no FUNCTION, no way", t.unlike(function, 4, 1, 0), UNKNOWN);
            due("no FUNCTION, no other", t.unlike(function, 0, -1, 0), UNKNOWN);
            due("no FUNCTION, no what", t.unlike(function, 0, 1, 2), UNKNOWN);
        }
    }

    private static void newBodies() {
        checks.sentence("All ARGUMENTS are gone through (with the BODIES that are there now)");
        Subject t = with("x", null, null, "+fxy");
        ends("x and y", t, K, 64, 0, 0);
        matters("x and y", t, K, 1, 1);
        steps("x and y", t, K, 64 * 5);
        unlike("x and y", t, K, 1, 2, 0, NONE);
        t.put(F, "?01x");
        matters("y", t, K, 0, 1);
        steps("y", t, K, 64 * 6, 64 * 6, 64 * 7, 64 * 6);
        unlike("y", t, K, 1, 2, 8, 72);
        t.put(F, "!");
        ends("none", t, K, 0, 64, 0);
        matters("none", t, K, 0, 0);
        steps("none", t, K, 0);
    }
}
