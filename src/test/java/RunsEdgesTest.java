/** Part 2, promise 7: each sentence that names an edge, with the last that is allowed and the first that is not. */
public final class RunsEdgesTest extends Given {
    private static final int NAME = 0, NEED = 1, AHEAD = 2, SAFE = 3;

    public static void main(String[] args) {
        rowsOfNines();
        digitsOfNine();
        digitEight();
        endsOfARun();
        eachTextIsAStep();
        actsLeftOverByEight();
        theLesser();
        actsWorkBothInOrder();
        choicesWorkOne();
        lastSteps();
        nothingAtTheLastStep();
        toldAtTheLastStep();
        endless();
        manyCalls();
        toldArguments();
        scopes();
        scopesOfLaterCalls();
        byName();
        byNeed();
        byNeedRemembersInItsCall();
        ahead();
        aheadFromTheLeft();
        safeOnlyThoseThatMust();
        safeFromTheLeft();
        safeOthersByNeed();
        safeWhereNothingMay();
        toldAhead();
        toldAheadIsNoStep();
        refuses();
        checks.close("RunsEdgesTest");
    }

    private static void runs(String what, Subject t, int function, int row, int[] ends, int[] steps) {
        for (int way = 0; way < 4; way++) {
            due(what + " way " + way, t.run(function, row, way, 0), ends[way]);
            due(what + " way " + way + " STEPS", t.run(function, row, way, 1), steps[way]);
        }
    }

    /** The same by all WAYS. */
    private static void runs(String what, Subject t, int function, int row, int end, int steps) {
        runs(what, t, function, row, new int[] {end, end, end, end}, new int[] {steps, steps, steps, steps});
    }

    private static int[] of(int... numbers) {
        return numbers;
    }

    // ---- told ARGUMENTS

    private static void rowsOfNines() {
        checks.sentence("ARGUMENTS of a FUNCTION are told as one number: digits of nine");
        Subject t = with("3", "4", "5", "6");
        for (int function = 0; function < 4; function++) {
            for (int way = 0; way < 4; way++) {
                int last = TOLD_ROWS[function] - 1;
                due("row 0", t.run(function, 0, way, 0), 3 + function);
                due("the last row", t.run(function, last, way, 0), way == AHEAD ? 8 : 3 + function);
                for (int row : new int[] {-1, last + 1, last + 9, MIN, MAX}) {
                    for (int what = 0; what < 2; what++) {
                        due("run(" + function + ", " + row + ")", t.run(function, row, way, what), OUTSIDE);
                    }
                }
            }
        }
    }

    private static void digitsOfNine() {
        checks.sentence("digits of nine, x the highest");
        for (int function = 0; function < 4; function++) {
            for (int argument = 0; argument < ARGUMENTS[function]; argument++) {
                rowsOf(function, argument);
            }
        }
    }

    private static void rowsOf(int function, int argument) {
        int weight = new int[] {1, 9, 81}[ARGUMENTS[function] - 1 - argument];
        String text = "xyz".substring(argument, argument + 1);
        Subject t = with(function, text);
        for (int row = 0; row < TOLD_ROWS[function]; row++) {
            if (t.left() < 4) {
                t = with(function, text);
            }
            int digit = row / weight % 9;
            boolean someNothing = Integer.toString(row, 9).indexOf('8') >= 0;
            for (int way = 0; way < 4; way++) {
                due(functionName(function) + " = " + text + " of " + row + " way " + way,
                    t.run(function, row, way, 0), way == AHEAD && someNothing ? 8 : digit);
            }
        }
    }

    private static void digitEight() {
        checks.sentence("0 to 7, or 8: NOTHING");
        Subject t = with("?x12", "?0xy", "?1xz", "+xy");
        due("7 is a NUMBER", t.run(F, 7, NEED, 0), 2);
        due("0 is one", t.run(F, 0, NEED, 0), 1);
        due("8 is NOTHING, not 0", t.run(F, 8, NEED, 0), 8);
        due("and by name", t.run(F, 8, NAME, 0), 8);
        due("x is 7, y 8", t.run(G, 9 * 7 + 8, NEED, 0), 7);
        due("x is 8, y 7", t.run(G, 9 * 8 + 7, NEED, 0), 8);
        due("z is 7, x and y 8", t.run(H, 81 * 8 + 9 * 8 + 7, NEED, 0), 7);
        due("7 and 7", t.run(K, 9 * 7 + 7, NEED, 0), 6);
        due("0 and 8, not 8 left over", t.run(K, 8, NEED, 0), 8);
        due("8 and 0", t.run(K, 72, NEED, 0), 8);
    }

    private static void endsOfARun() {
        checks.sentence("A RUN ENDS with a NUMBER, with NOTHING (8), or it is SPENT (9)");
        for (int number = 0; number < 8; number++) {
            runs("" + number, with(F, "" + number), F, 0, number, 1);
        }
        runs("!", with(F, "!"), F, 0, 8, 1);
        runs("fx", with(F, "fx"), F, 0, 9, 300);
    }

    private static void eachTextIsAStep() {
        checks.sentence("each text that is worked is a STEP, as it is begun");
        runs("an ACT and two", with(F, "+00"), F, 0, 0, 3);
        runs("the first ENDS it", with(F, "+!0"), F, 0, 8, 2);
        runs("the second ENDS it", with(F, "+0!"), F, 0, 8, 3);
        runs("? and two", with(F, "?01!"), F, 0, 1, 3);
        runs("? and two", with(F, "?1!" + ones(4)), F, 0, 4, 9);
        runs("the first ENDS it", with(F, "?!00"), F, 0, 8, 2);
        runs("a told one", with(F, "+xx"), F, 3, 6, 3);
        runs("all thirty", with(F, ONES), F, 0, 7, 29);
        Subject call = with("x", null, null, "f5");
        runs("a call, its BODY, its text", call, K, 0, 5, 3);
        runs("! in a BODY that is called ENDS the RUN", with("!", "+0f0", null, null), G, 0, of(8, 8, 8, 8), of(4, 4, 5, 5));
    }

    // ---- ACTS and choices

    private static void actsLeftOverByEight() {
        checks.sentence("sum, less, product, the lesser; all left over by 8");
        for (int act = 0; act < 4; act++) {
            Subject t = with(G, "+-*m".charAt(act) + "xy");
            for (int x = 0; x < 8; x++) {
                for (int y = 0; y < 8; y++) {
                    int[] want = {(x + y) % 8, (x + 8 - y) % 8, x * y % 8, x < y ? x : y};
                    for (int way = 0; way < 4; way++) {
                        due("+-*m".charAt(act) + " of " + x + ", " + y, t.run(G, 9 * x + y, way, 0), want[act]);
                    }
                }
            }
        }
        runs("7 and 1 are 0", with(F, "+71"), F, 0, 0, 3);
        runs("0 less 1 is 7", with(F, "-01"), F, 0, 7, 3);
        runs("7 by 7 is 1", with(F, "*77"), F, 0, 1, 3);
        runs("2 by 4 is 0", with(F, "*24"), F, 0, 0, 3);
    }

    private static void theLesser() {
        checks.sentence("all left over by 8 (each time, not only at the end)");
        runs("the lesser of 8 left over and 1", with(F, "m+711"), F, 0, 0, 5);
        runs("the lesser of -1 left over and 3", with(F, "m-013"), F, 0, 3, 5);
        runs("the lesser of 49 left over and 5", with(F, "m5*77"), F, 0, 1, 5);
        runs("8 left over is 0 for ?", with(F, "?+7123"), F, 0, 2, 5);
        runs("an ARGUMENT is left over too", with("mx4", null, null, "f+77"), K, 0, 4, 7);
    }

    private static void actsWorkBothInOrder() {
        checks.sentence("an ACT works its first, then its second text");
        for (char act : "+-*m".toCharArray()) {
            runs("0 and !", with(F, act + "0!"), F, 0, 8, 3);
            runs("! and 0", with(F, act + "!0"), F, 0, 8, 2);
            runs("! ahead of what is SPENT", with("fx", null, null, act + "!f0"), K, 0, 8, 2);
            runs("SPENT ahead of !", with("fx", null, null, act + "f0!"), K, 0, 9, 300);
        }
        due("x first", with(G, "-xy").run(G, 72, NEED, 1), 2);
        due("y second", with(G, "-xy").run(G, 8, NEED, 1), 3);
        due("less: the second from the first", with(F, "-31").run(F, 0, NEED, 0), 2);
    }

    private static void choicesWorkOne() {
        checks.sentence("if the first one is 0 the second, else the third");
        for (int first = 0; first < 8; first++) {
            runs("? of " + first, with(F, "?" + first + "56"), F, 0, first == 0 ? 5 : 6, 3);
            runs("? of " + first + ", the other !", with(F, "?" + first + (first == 0 ? "5!" : "!6")), F, 0,
                first == 0 ? 5 : 6, 3);
            runs("? of " + first + ", this !", with(F, "?" + first + (first == 0 ? "!6" : "5!")), F, 0, 8, 3);
            runs("? of told " + first, with(F, "?x56"), F, first, first == 0 ? 5 : 6, 3);
        }
    }

    // ---- 300 STEPS

    /** Each of its ARGUMENTS is asked for once, so that a call of it takes as many STEPS by each WAY: 30. */
    private static final String K30 = "+x+y" + ones(12);
    /** Likewise: a call takes 98 STEPS. */
    private static final String F98 = sum("x", "k00", "k00", "k00", "1");

    private static Subject near300(String g, String h) {
        return with(F98, g, h, K30);
    }

    private static void lastSteps() {
        checks.sentence("behind 300 STEPS it is SPENT, as one more is begun");
        runs("30", with(null, null, "k00", K30), H, 0, 4, 30);
        runs("98", near300(null, "f0"), H, 0, 5, 98);
        runs("298", near300(null, sum("f0", "f0", "f0", "1")), H, 0, 0, 298);
        runs("300", near300(null, sum("f0", "f0", "f0", "1", "1")), H, 0, 1, 300);
        // g00 takes two STEPS, ahead four.
        runs("299, ahead 301", near300("1", sum("f0", "f0", "f0", "g00")), H, 0, of(0, 0, 9, 0), of(299, 299, 300, 299));
        runs("301, ahead 303", near300("1", sum("f0", "f0", "f0", "1", "g00")), H, 0, 9, 300);
        runs("302", near300(null, sum("f0", "f0", "f0", "1", "1", "1")), H, 0, 9, 300);
        // g10 takes a call, x and its text: 298 to 300; ahead y's text comes between.
        runs("300, x the last or its text", near300("x", sum("f0", "f0", "f0", "g10")), H, 0, of(0, 0, 9, 0),
            of(300, 300, 300, 300));
        runs("the 300th a call", near300("x", sum("f0", "f0", "f0", "gg100")), H, 0, 9, 300);
        runs("the 300th a ?", near300(null, sum("f0", "f0", "f0", "1", "?011")), H, 0, 9, 300);
        runs("the 300th an ACT", near300(null, sum("f0", "f0", "f0", "1", "*11")), H, 0, 9, 300);
    }

    private static void nothingAtTheLastStep() {
        checks.sentence("! ENDS the RUN with NOTHING (the 300th STEP still does)");
        runs("! as the 300th", near300(null, sum("f0", "f0", "f0", "1", "!")), H, 0, 8, 300);
        runs("! as the 301st", near300("!", sum("f0", "f0", "f0", "1", "g!!")), H, 0, 9, 300);
        runs("! as the 302nd", near300(null, sum("f0", "f0", "f0", "1", "?0!!")), H, 0, 9, 300);
    }

    private static void toldAtTheLastStep() {
        checks.sentence("a told one is itself, or ENDS the RUN with NOTHING (the 300th STEP still does)");
        Subject t = near300(null, sum("f0", "f0", "f0", "1", "z"));
        runs("z 7", t, H, 7, 7, 300);
        runs("z NOTHING", t, H, 8, of(8, 8, 8, 8), of(300, 300, 0, 0));
        Subject behind = near300(null, sum("f0", "f0", "f0", "1", "fz"));
        runs("z 7, never asked for", behind, H, 7, 9, 300);
        runs("z NOTHING, never asked for", behind, H, 8, of(9, 9, 8, 8), of(300, 300, 0, 0));
    }

    private static void endless() {
        checks.sentence("or it is SPENT (9)");
        String[][] texts = {{"fx", null, null, null}, {"f+x1", null, null, null}, {"ffx", null, null, null},
            {"+1fx", null, null, null}, {"?fx11", null, null, null}, {"gxx", "fy", null, null},
            {"gx1", "hxyx", "kzy", "fx"}, {"hxxx", null, "h+xyyz", null}, {"hxxx", null, "hh111yz", null}};
        for (String[] four : texts) {
            runs(four[0], with(four[0], four[1], four[2], four[3]), F, 7, 9, 300);
        }
        due("the other one never ends, and is not worked", with(F, "?01ffx").run(F, 0, AHEAD, 0), 1);
        runs("an unasked text is SPENT ahead", with("fx", "1", null, "gf00"), K, 0, of(1, 1, 9, 1), of(2, 2, 300, 2));
    }

    /** Of 130 calls each asks for what the one around it was given. */
    private static void manyCalls() {
        checks.sentence("behind 300 STEPS it is SPENT (and not earlier, however many calls there are)");
        Subject t = with("x", null, "+kkkkkkkkx00000000kkkkkx00000", "fffffffffx");
        for (int x = 0; x < 8; x++) {
            int end = 2 * x % 8;
            runs("130 calls", t, H, 81 * x, of(end, end, end, end), of(263, 263, 276, 263));
        }
        runs("130 calls, x NOTHING", t, H, 81 * 8, of(8, 8, 8, 8), of(162, 162, 0, 0));
    }

    // ---- ARGUMENTS and calls

    private static void toldArguments() {
        checks.sentence("x, y, z: a told one is itself, or ENDS the RUN with NOTHING");
        Subject t = with(H, "?xyz");
        due("y is not asked for", t.run(H, 81 + 9 * 8 + 3, NAME, 0), 3);
        due("y is not asked for", t.run(H, 81 + 9 * 8 + 3, NEED, 0), 3);
        due("z is not asked for", t.run(H, 9 * 3 + 8, NEED, 0), 3);
        due("y is asked for", t.run(H, 9 * 8 + 3, NEED, 0), 8);
        due("in three STEPS", t.run(H, 9 * 8 + 3, NEED, 1), 3);
        due("z is asked for", t.run(H, 81 + 9 * 3 + 8, NAME, 0), 8);
        due("x is asked for", t.run(H, 648, NAME, 1), 2);
        Subject none = with(H, "4");
        due("none is asked for", none.run(H, 728, NAME, 0), 4);
        due("none is asked for", none.run(H, 728, NEED, 0), 4);
    }

    private static void scopes() {
        checks.sentence("among the ARGUMENTS of the BODY in which it is written");
        Subject swap = with(null, "-xy", "gzx", "gyx");
        runs("y less x", swap, K, 9 * 5 + 2, 5, 6);
        due("z less x", swap.run(H, 81 * 3 + 7, NEED, 0), 4);
        Subject own = with("+x1", null, null, "ff+x1");
        for (int way = 0; way < 4; way++) {
            due("each x its own", own.run(K, 9 * 4, way, 0), 7);
        }
        Subject again = with("?x5f-x1", null, null, null);
        for (int way = 0; way < 4; way++) {
            due("x of a call within a call", again.run(F, 7, way, 0), 5);
        }
        Subject turn = with(null, "?x+yygyx", null, null);
        for (int way = 0; way < 4; way++) {
            due("turned once", turn.run(G, 9 * 3, way, 0), 6);
        }
    }

    /**
     * h calls k some times, which calls f some times, all for 0; then it calls g with a 3 and another text. The 3 is
     * asked for behind the other text, and must still be a 3, whichever call of the RUN this one is.
     */
    private static void scopesOfLaterCalls() {
        checks.sentence("among the ARGUMENTS of the BODY in which it is written (whichever call of the RUN it is)");
        String[] texts = {"?z12", "+z1", "-z1", "*z1", "mz1"};
        for (int i = 0; i < texts.length; i++) {
            for (int callsOfF = 1; callsOfF <= 10; callsOfF++) {
                for (int callsOfK = 1; callsOfK <= 6; callsOfK++) {
                    laterCall(texts[i], 0, of(1, 1, 7, 0, 0)[i], callsOfF, callsOfK);
                    laterCall(texts[i], 5, of(2, 6, 4, 5, 1)[i], callsOfF, callsOfK);
                }
            }
        }
    }

    private static void laterCall(String text, int z, int comes, int callsOfF, int callsOfK) {
        String f = sum("f0 ".repeat(callsOfF).split(" "));
        String k = sum("k00 ".repeat(callsOfK).split(" "));
        int steps = 8 + callsOfK + 3 * callsOfF * callsOfK;
        int aheadSteps = steps + 2 * callsOfK + callsOfF * callsOfK;
        int end = (comes + 8 - 3) % 8;
        String what = callsOfK + " times k, " + callsOfF + " times f, then 3 and " + text + " of " + z;
        runs(what, with("0", "-yx", "+" + k + "g3" + text, f), H, z, of(end, end, end, end),
            of(steps, steps, aheadSteps, steps));
        runs(what, with("0", "-xy", "+" + k + "g" + text + "3", f), H, z, of(end, end, end, end),
            of(steps, steps, aheadSteps, steps));
    }

    // ---- WAYS

    /** What f may be, where all that is run is f+12: it asks for its text not at all, once, twice, thrice, or it depends. */
    private static final String[] CALLED = {"1", "x", "+xx", "+x+xx", "?0xx", "?01x", "?11+xx"};

    private static void stepsOfOneCall(int way, int... want) {
        for (int i = 0; i < CALLED.length; i++) {
            due("f = " + CALLED[i], with(CALLED[i], null, null, "f+12").run(K, 0, way, 1), want[i]);
        }
    }

    private static void byName() {
        checks.sentence("0 BY NAME: so each time that it is asked for");
        stepsOfOneCall(NAME, 2, 5, 10, 15, 7, 4, 12);
        due("passed on", with("+xx", "fx", null, "g+120").run(K, 0, NAME, 1), 13);
        due("eight times doubled", with("mxx", "ffffffffy", null, null).run(G, 5, NAME, 0), 9);
    }

    private static void byNeed() {
        checks.sentence("1 BY NEED: only the first time; what came of it then is remembered");
        stepsOfOneCall(NEED, 2, 5, 7, 9, 7, 4, 9);
        for (int number = 0; number < 8; number++) {
            Subject t = with("+xx", null, null, "f+x0");
            due(number + " is remembered", t.run(K, 9 * number, NEED, 1), 7);
            due("as it came", t.run(K, 9 * number, NEED, 0), 2 * number % 8);
        }
        due("eight times doubled", with("mxx", "ffffffffy", null, null).run(G, 5, NEED, 0), 5);
        due("each a call, m, x, x; and y", with("mxx", "ffffffffy", null, null).run(G, 5, NEED, 1), 8 * 4 + 1);
        Subject each = with(null, "-x+yy", null, "g*x2+y1");
        due("each ARGUMENT its own", each.run(K, 9 * 3 + 1, NEED, 0), 2);
        due("each once", each.run(K, 9 * 3 + 1, NEED, 1), 1 + 1 + 4 + 1 + 4 + 1);
    }

    private static void byNeedRemembersInItsCall() {
        checks.sentence("what came of it then is remembered (by the call whose text it is)");
        due("two calls, each works its text", with("+xx", null, null, "+f+12f+12").run(K, 0, NEED, 1), 15);
        due("by name", with("+xx", null, null, "+f+12f+12").run(K, 0, NAME, 1), 21);
        Subject passed = with("x", "+fxfx", null, "g+120");
        due("passed on twice, worked once", passed.run(K, 0, NEED, 1), 11);
        due("by name twice", passed.run(K, 0, NAME, 1), 14);
        Subject other = with("x", null, null, "+f1f2");
        due("another call, another text", other.run(K, 0, NEED, 0), 3);
        Subject deeper = with(null, "?x+yyg-x1+y1", null, null);
        due("a call of itself has its own", deeper.run(G, 9 * 3, NEED, 0), 6);
        due("ahead likewise", deeper.run(G, 9 * 3, AHEAD, 0), 6);
    }

    private static void ahead() {
        checks.sentence("2 AHEAD: all texts of a call are worked ahead of its BODY");
        stepsOfOneCall(AHEAD, 5, 5, 7, 9, 7, 7, 9);
        due("three texts", with(null, null, "0", "h+11+11+11").run(K, 0, AHEAD, 1), 1 + 9 + 1);
        due("passed on", with("+xx", "fx", null, "g+120").run(K, 0, AHEAD, 1), 10);
        runs("the BODY never comes", with("!", "1", null, "gf00"), K, 0, of(1, 1, 8, 1), of(2, 2, 4, 2));
        runs("none is asked for", with("x", "7", null, "g!!"), K, 0, of(7, 7, 8, 7), of(2, 2, 2, 2));
    }

    private static void aheadFromTheLeft() {
        checks.sentence("worked ahead of its BODY, from the left");
        String[] calls = {"h!00", "h0!0", "h00!", "h!!!", "h0!!", "h1+0!!"};
        int[] steps = {2, 3, 4, 2, 3, 5};
        for (int i = 0; i < calls.length; i++) {
            Subject t = with(null, null, "0", calls[i]);
            due(calls[i], t.run(K, 0, AHEAD, 0), 8);
            due(calls[i] + " STEPS", t.run(K, 0, AHEAD, 1), steps[i]);
            due(calls[i] + " by need", t.run(K, 0, NEED, 1), 2);
        }
        due("! ahead of what is SPENT", with("fx", "+yx", null, "g!f0").run(K, 0, AHEAD, 1), 2);
        due("SPENT ahead of !", with("fx", "+yx", null, "gf0!").run(K, 0, AHEAD, 0), 9);
    }

    private static void safeOnlyThoseThatMust() {
        checks.sentence("3 SAFE: only those of ARGUMENTS that MUST be are worked ahead");
        stepsOfOneCall(SAFE, 2, 5, 7, 9, 7, 4, 9);
        // z MUST be; x is asked for first, and need not be.
        Subject third = with("fx", null, "+?0xyz", "h!0f0");
        runs("z ahead of x", third, K, 0, of(8, 8, 8, 9), of(6, 6, 2, 300));
        runs("y never", with(null, null, "+x+z?01y", "h1!2"), K, 0, of(4, 4, 8, 4), of(10, 10, 3, 10));
        // A NUMBER MAY come without y, so y is left to be asked for.
        Subject both = with(null, "?x*x0+xy", null, "g0!");
        due("no MUST for y", both.must(G), 1);
        runs("y is not worked", both, K, 0, of(0, 0, 8, 0), of(8, 7, 3, 7));
        due("passed on", with("+xx", "fx", null, "g+120").run(K, 0, SAFE, 1), 9);
    }

    private static void safeFromTheLeft() {
        checks.sentence("only those of ARGUMENTS that MUST be are worked ahead, from the left");
        runs("x ahead of y", with("fx", null, "+z+yx", "h!f00"), K, 0, of(9, 9, 8, 8), of(300, 300, 2, 2));
        runs("y ahead of z", with("fx", null, "+z+yx", "h0!f0"), K, 0, of(9, 9, 8, 8), of(300, 300, 3, 3));
        runs("x is SPENT", with("fx", null, "+z+yx", "hf0!!"), K, 0, of(8, 8, 9, 9), of(4, 4, 300, 300));
        runs("x, then z", with("fx", null, "+z+x?01y", "h!f0f0"), K, 0, of(9, 9, 8, 8), of(300, 300, 2, 2));
        runs("z behind x", with("fx", null, "+z+x?01y", "h1f0!"), K, 0, of(8, 8, 9, 8), of(4, 4, 300, 3));
    }

    private static void safeOthersByNeed() {
        checks.sentence("all others BY NEED");
        Subject t = with(null, "?x0+yy", null, "gx+12");
        runs("asked for twice, worked once", t, K, 9, of(6, 6, 6, 6), of(13, 10, 10, 10));
        runs("not asked for", t, K, 0, of(0, 0, 0, 0), of(5, 5, 8, 5));
    }

    private static void safeWhereNothingMay() {
        checks.sentence("An ARGUMENT MUST be: nothing MAY come of all but it (if nothing MAY come at all, each MUST be)");
        runs("!", with("!", null, null, "f+11"), K, 0, of(8, 8, 8, 8), of(2, 2, 5, 5));
        runs("of itself", with("fx", "g!y", null, "g1!"), K, 0, of(9, 9, 8, 8), of(300, 300, 3, 3));
        runs("told", with("fx", null, null, null), F, 8, of(9, 9, 8, 8), of(300, 300, 0, 0));
        runs("told, a new object", new Subject(), H, 8, of(8, 8, 8, 8), of(1, 1, 0, 0));
        runs("told, a new object", new Subject(), G, 72, of(8, 8, 8, 8), of(1, 1, 0, 0));
    }

    private static void toldAhead() {
        checks.sentence("Told ARGUMENTS of the RUN: in WAYS 2 and 3 those, likewise, are looked at ahead");
        Subject t = with("1", "?01y", "+x+z?01y", "+xy");
        runs("f of 8", t, F, 8, of(1, 1, 8, 1), of(1, 1, 0, 1));
        runs("g of 0 8", t, G, 8, of(1, 1, 8, 1), of(3, 3, 0, 3));
        runs("g of 8 0", t, G, 72, of(1, 1, 8, 1), of(3, 3, 0, 3));
        runs("g of 8 8", t, G, 80, of(1, 1, 8, 1), of(3, 3, 0, 3));
        runs("h of 0 8 0", t, H, 72, of(1, 1, 8, 1), of(7, 7, 0, 7));
        runs("h of 8 0 0", t, H, 648, of(8, 8, 8, 8), of(2, 2, 0, 0));
        runs("h of 0 0 8", t, H, 8, of(8, 8, 8, 8), of(4, 4, 0, 0));
        runs("k of 0 8", t, K, 8, of(8, 8, 8, 8), of(3, 3, 0, 0));
        runs("k of 8 0", t, K, 72, of(8, 8, 8, 8), of(2, 2, 0, 0));
        runs("ahead of a ! of the BODY", with(null, "+fx0", null, null), G, 80, of(8, 8, 8, 8), of(3, 3, 0, 0));
    }

    private static void toldAheadIsNoStep() {
        checks.sentence("looked at ahead, from the left; this is no STEP");
        runs("none is asked for", with(H, "5"), H, 81 + 9 + 1, 5, 1);
        runs("all are asked for", with(H, "+x+yz"), H, 81 + 9 + 1, 3, 5);
        runs("300 behind it", near300(null, sum("f0", "f0", "f0", "1", "x")), H, 81 * 7 + 9 * 7 + 7, 7, 300);
        runs("a told one within a call", with("x", null, null, "fx"), K, 9 * 6, 6, 3);
    }

    private static void refuses() {
        checks.sentence("UNKNOWN; OUTSIDE: ARGUMENTS, WAY 0 to 3, what");
        Subject t = with("x", "x", "x", "x");
        for (int function = 0; function < 4; function++) {
            for (int way : new int[] {-1, 4, MIN, MAX}) {
                due("way " + way, t.run(function, 0, way, 0), OUTSIDE);
                due("way " + way, t.run(function, 0, way, 1), OUTSIDE);
            }
            for (int way = 0; way < 4; way++) {
                due("way " + way, t.run(function, 0, way, 0), 0);
                for (int what : new int[] {-1, 2, MIN, MAX}) {
                    due("what " + what, t.run(function, 0, way, what), OUTSIDE);
                }
            }
        }
        for (int function : NO_FUNCTIONS) {
            due("no FUNCTION", t.run(function, 0, 0, 0), UNKNOWN);
            due("no FUNCTION, no row", t.run(function, -1, 0, 0), UNKNOWN);
            due("no FUNCTION, no way", t.run(function, 0, 4, 0), UNKNOWN);
            due("no FUNCTION, no what", t.run(function, 0, 0, 2), UNKNOWN);
        }
    }
}
