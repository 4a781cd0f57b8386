/** Part 1, promises 1 to 6 and 17: each sentence that names an edge, with the last that is allowed and the first that is not. */
public final class BodiesEdgesTest extends Given {
    private static final String WITH_TEXTS = "+-*m?fghk";
    private static final String LEAVES = "01234567!xyz";

    public static void main(String[] args) {
        functionsAreFour();
        codes();
        thirtySigns();
        numbers();
        argumentsThatItHas();
        nothingSign();
        actsHaveTwoTexts();
        choicesHaveThreeTexts();
        callsHaveAsManyTextsAsArguments();
        noOtherSignStands();
        leavesWithinNine();
        textsOfTheirOwnWithinNine();
        nineAroundOnEveryPlace();
        nineAroundBehindDeepTexts();
        placeOfTheFault();
        firstOfManyFaults();
        moreMustCome();
        signsBehindTheText();
        bodiesAtFirst();
        emptyPad();
        sayCounts();
        wipeEmpties();
        faultOfThePad();
        bodyTakesThePad();
        fourFullBodies();
        bodyRefuses();
        nodesAsTheyAreWritten();
        nodesWithAllWithin();
        nodesWithinOthers();
        nodeWhat();
        toldWhat();
        checks.close("BodiesEdgesTest");
    }

    private static boolean has(int function, char argument) {
        return argument >= 'x' && argument < 'x' + ARGUMENTS[function];
    }

    private static int textsOf(char sign) {
        return WITH_TEXTS.indexOf(sign) < 0 ? 0 : sign == '?' ? 3
            : "fghk".indexOf(sign) < 0 ? 2 : ARGUMENTS["fghk".indexOf(sign)];
    }

    /** A sign with zeros as its texts. */
    private static String whole(char sign) {
        return sign + "0".repeat(textsOf(sign));
    }

    // ---- terms

    private static void functionsAreFour() {
        checks.sentence("FUNCTIONS 0 to 3 (f, g, h, k)");
        Subject t = withPad("0");
        for (int function : NO_FUNCTIONS) {
            due("fault(" + function + ")", t.fault(function), UNKNOWN);
            due("body(" + function + ")", t.body(function), UNKNOWN);
            due("node(" + function + ", 0, 0)", t.node(function, 0, 0), UNKNOWN);
        }
        for (int function = 0; function < 4; function++) {
            due("fault(" + function + ")", t.fault(function), NONE);
            due("body(" + function + ")", t.body(function), 1);
            due("node(" + function + ", 0, 0)", t.node(function, 0, 0), '0');
            t.write("0");
        }
    }

    private static void codes() {
        checks.sentence("SIGNS (codes 33 to 126)");
        Subject t = new Subject();
        for (int sign : new int[] {32, 127, 0, -1, -33, 31, 128, '0' + 256, 'x' - 256, 'x' + 65536, MIN, MAX, MIN + '0'}) {
            due("say(" + sign + ")", t.say(sign), OUTSIDE);
            due("told(0)", t.told(0), 0);
        }
        due("say(33)", t.say(33), 1);
        due("say(126)", t.say(126), 2);
        due("say(32)", t.say(32), OUTSIDE);
        due("say(127)", t.say(127), OUTSIDE);
        due("told(0)", t.told(0), 2);
        for (int sign = 33; sign <= 126; sign++) {
            due("say(" + sign + ")", new Subject().say(sign), 1);
        }
    }

    private static void thirtySigns() {
        checks.sentence("written on a PAD of SIGNS (codes 33 to 126), 30 at most");
        Subject t = withPad(ONES.replace("+1", "-1"));
        due("the 30th", t.say('5'), 30);
        for (int sign : new int[] {33, '0', 'x', 126}) {
            due("the 31st, " + sign, t.say(sign), FULL);
            due("told(0)", t.told(0), 30);
        }
        due("the 30th is a sign too many", t.fault(F), 29);
        due("wipe", t.wipe(), 30);
        t.write("f" + ONES);
        due("full", t.told(0), 30);
        due("the 31st", t.say('0'), FULL);
        due("no fault", t.fault(F), NONE);
        due("body", t.body(F), 30);
        for (int node = 0; node < 30; node++) {
            due("sign " + node, t.node(F, node, 0), ("f" + ONES).charAt(node));
        }
        due("there is room behind it", t.say('0'), 1);
    }

    // ---- what can stand

    private static void numbers() {
        checks.sentence("0 to 7 (a NUMBER)");
        for (int function = 0; function < 4; function++) {
            for (char sign = '0'; sign <= '7'; sign++) {
                due("fault of " + sign, faultOf("" + sign, function), NONE);
                due("fault of +0" + sign, faultOf("+0" + sign, function), NONE);
            }
            for (char sign : new char[] {'/', '8', '9', ':'}) {
                due("fault of " + sign, faultOf("" + sign, function), 0);
                due("fault of +" + sign + "0", faultOf("+" + sign + "0", function), 1);
                due("fault of +0" + sign, faultOf("+0" + sign, function), 2);
            }
        }
    }

    private static void argumentsThatItHas() {
        checks.sentence("x, y, z (an ARGUMENT that the FUNCTION has)");
        String[] own = {"x", "xy", "xyz", "xy"};
        for (int function = 0; function < 4; function++) {
            for (char sign : "wxyz{XYZ".toCharArray()) {
                boolean stands = own[function].indexOf(sign) >= 0;
                due("fault(" + function + ") of " + sign, faultOf("" + sign, function), stands ? NONE : 0);
                due("fault(" + function + ") of ?0x" + sign, faultOf("?0x" + sign, function), stands ? NONE : 3);
                due("fault(" + function + ") of f" + sign, faultOf("f" + sign, function), stands ? NONE : 1);
            }
        }
        due("h is called in f, but z is h's", faultOf("hxxz", F), 3);
        due("f is called in h, and z is h's", faultOf("fz", H), NONE);
        Subject t = withPad("+yx");
        due("f lacks y", t.body(F), NO);
        due("k has y", t.body(K), 3);
        t.write("z");
        due("f lacks z", t.body(F), NO);
        due("g lacks z", t.body(G), NO);
        due("k lacks z", t.body(K), NO);
        due("h has z", t.body(H), 1);
    }

    private static void nothingSign() {
        checks.sentence("! (NOTHING)");
        for (int function = 0; function < 4; function++) {
            due("fault of !", faultOf("!", function), NONE);
            due("fault of !!", faultOf("!!", function), 1);
            due("fault of the next code", faultOf("\"", function), 0);
        }
    }

    private static void actsHaveTwoTexts() {
        checks.sentence("+ - * or m and two texts");
        for (char sign : "+-*m".toCharArray()) {
            standsWithTexts(sign, 2);
        }
        for (char sign : "),./lnM".toCharArray()) {
            due("fault of " + sign, faultOf(sign + "00", H), 0);
        }
    }

    private static void choicesHaveThreeTexts() {
        checks.sentence("? and three texts");
        standsWithTexts('?', 3);
        due("fault of >", faultOf(">000", H), 0);
        due("fault of @", faultOf("@000", H), 0);
    }

    private static void callsHaveAsManyTextsAsArguments() {
        checks.sentence("f, g, h or k and as many texts as it has ARGUMENTS");
        standsWithTexts('f', 1);
        standsWithTexts('g', 2);
        standsWithTexts('h', 3);
        standsWithTexts('k', 2);
        for (char sign : "eijlFGHK".toCharArray()) {
            due("fault of " + sign, faultOf(sign + "00", H), 0);
        }
    }

    /** One text too few, as many as due, one too many; for every FUNCTION, with leaves and with texts that have some. */
    private static void standsWithTexts(char sign, int texts) {
        for (int function = 0; function < 4; function++) {
            String few = sign + "0".repeat(texts - 1);
            due("fault of " + few, faultOf(few, function), texts);
            due("fault of " + few + "0", faultOf(few + "0", function), NONE);
            due("fault of " + few + "00", faultOf(few + "00", function), texts + 1);
            String inner = sign + "gx1".repeat(texts);
            due("fault of " + inner, faultOf(inner, function), NONE);
            due("fault of f" + few, faultOf("f" + few, function), texts + 1);
            due("fault of +" + few + "0", faultOf("+" + few + "0", function), texts + 2);
            due("fault of +" + few + "00", faultOf("+" + few + "00", function), NONE);
        }
    }

    private static void noOtherSignStands() {
        checks.sentence("the first sign that can not stand there");
        for (int function = 0; function < 4; function++) {
            for (char sign = 33; sign <= 126; sign++) {
                boolean leaf = "01234567!".indexOf(sign) >= 0 || has(function, sign);
                boolean stands = leaf || WITH_TEXTS.indexOf(sign) >= 0;
                due("fault(" + function + ") of " + whole(sign), faultOf(whole(sign), function), stands ? NONE : 0);
                String third = "?f0" + whole(sign) + "0";
                due("fault(" + function + ") of " + third, faultOf(third, function), stands ? NONE : 3);
            }
        }
    }

    // ---- depth

    private static void leavesWithinNine() {
        checks.sentence("No text lies within more than 9 others");
        for (int function = 0; function < 4; function++) {
            for (char sign : LEAVES.toCharArray()) {
                boolean stands = sign < 'x' || has(function, sign);
                due("nine around " + sign, faultOf("fffffffff" + sign, function), stands ? NONE : 9);
                due("eight around " + sign, faultOf("ffffffff" + sign, function), stands ? NONE : 8);
            }
        }
        due("within nine", with(F, "fffffffffx").node(F, 9, 2), 9);
    }

    private static void textsOfTheirOwnWithinNine() {
        checks.sentence("one that has texts of its own can not within 9 others");
        for (int function = 0; function < 4; function++) {
            for (char sign : WITH_TEXTS.toCharArray()) {
                due("eight around " + sign, faultOf("ffffffff" + whole(sign), function), NONE);
                due("nine around " + sign, faultOf("fffffffff" + whole(sign), function), 9);
                due("nine around " + sign + ", more must come", faultOf("fffffffff" + sign, function), 9);
                due("ten of it", faultOf(("" + sign).repeat(10), function), 9);
                due("nine of it, more must come", faultOf(("" + sign).repeat(9), function), 9);
            }
        }
        Subject t = withPad("fffffffff+00");
        due("it is a FAULT", t.body(F), NO);
        due("the PAD stays", t.told(0), 12);
    }

    /** A text's last own text lies within it as the first does. */
    private static void nineAroundOnEveryPlace() {
        checks.sentence("No text lies within more than 9 others (whichever of their texts it is)");
        String[][] around = {{"+", "0"}, {"+0", ""}, {"-0", ""}, {"*0", ""}, {"m0", ""}, {"?0", "0"}, {"?00", ""},
            {"g0", ""}, {"h0", "0"}, {"h00", ""}, {"k0", ""}, {"k", "0"}, {"g", "0"}};
        for (String[] pair : around) {
            String front = pair[0].repeat(9);
            due("nine times " + pair[0], faultOf(front + "0" + pair[1].repeat(9), F), NONE);
            due("nine times " + pair[0] + ", then f", faultOf(front + "f", F), front.length());
            String eight = pair[0].repeat(8);
            due("eight times " + pair[0] + ", then f", faultOf(eight + "f0" + pair[1].repeat(8), F), NONE);
            due("nine times " + pair[0] + ", then 8", faultOf(front + "8", F), front.length());
        }
        due("?, first", faultOf("?".repeat(9) + "0" + "0".repeat(18), F), NONE);
        due("h, first", faultOf("h".repeat(9) + "0" + "0".repeat(18), F), NONE);
        due("h, first, then m", faultOf("h".repeat(9) + "m", F), 9);
    }

    private static void nineAroundBehindDeepTexts() {
        checks.sentence("No text lies within more than 9 others (those that ended are not around it)");
        String deep = "ffffffff0";
        due("the second as deep as the first", faultOf("+" + deep + deep, F), NONE);
        due("the second one deeper", faultOf("+" + deep + "f" + deep, F), 18);
        String steps = "+0+0+0+0+0+0+0f0";
        due("all end at once", faultOf("+" + steps + deep, F), NONE);
        due("all end at once, the second one deeper", faultOf("+" + steps + "f" + deep, F), 25);
        due("three of one", faultOf("?" + deep + deep + deep, F), NONE);
        due("three of one, the third one deeper", faultOf("?" + deep + deep + "f" + deep, F), 27);
        due("ten behind one another", faultOf("+" + "+f0f0" + "+f0f0" + "8", F), 11);
        due("a text of its own at each depth", faultOf("+f0+f0+f0+f0+f0+f0+f0+f00", F), NONE);
    }

    // ---- the fault

    private static void placeOfTheFault() {
        checks.sentence("the place (from 0 on) of the first sign that can not stand there");
        String full = "f" + ONES;
        for (int place = 0; place < 30; place++) {
            String broken = full.substring(0, place) + "8" + full.substring(place + 1);
            due("8 at " + place, faultOf(broken, F), place);
            due("8 at the end, " + place, faultOf(full.substring(0, place) + "8", F), place);
        }
    }

    private static void firstOfManyFaults() {
        checks.sentence("of the first sign");
        due("two unfit ones", faultOf("+89", F), 1);
        due("unfit, then a sign too many", faultOf("+8000", F), 1);
        due("unfit, and more must come", faultOf("?08", F), 2);
        due("a sign too many, then unfit", faultOf("0+8", F), 1);
        due("y in f, then unfit", faultOf("+y8", F), 1);
        due("y in f, within more than nine later", faultOf("+yffffffffff0", F), 1);
        due("within nine, then unfit", faultOf("ffffffffff8", F), 9);
        due("for g y stands, z does not", faultOf("+yz", G), 2);
        due("for f y does not", faultOf("+yz", F), 1);
    }

    private static void moreMustCome() {
        checks.sentence("the number of signs, if more must come");
        String[] texts = {"f" + ONES, "?xh+00*1!k07m1" + ones(5), "??0?001!0h000", "h0h0h0h0f01111"};
        for (String text : texts) {
            for (int function = 0; function < 4; function++) {
                for (int length = 0; length < text.length(); length++) {
                    due("fault of " + text.substring(0, length), faultOf(text.substring(0, length), function), length);
                }
                due("fault of " + text, faultOf(text, function), NONE);
            }
        }
        due("none", faultOf("", F), 0);
        due("thirty", faultOf("?" + ONES, F), 30);
        due("thirty, two must come", faultOf("f?f" + ones(14), F), 30);
        due("twenty-nine", faultOf("?" + "f" + ones(14), F), 29);
    }

    private static void signsBehindTheText() {
        checks.sentence("the first sign that can not stand there (none can, behind the whole text)");
        for (char sign = 33; sign <= 126; sign++) {
            due("0, then " + sign, faultOf("0" + sign, H), 1);
            due("hxyz, then " + sign, faultOf("hxyz" + sign, H), 4);
        }
        due("29 signs, then one", faultOf(ONES + "1", F), 29);
    }

    // ---- promises 1 to 6

    private static void bodiesAtFirst() {
        checks.sentence("BODIES are ! at first");
        Subject t = new Subject();
        for (int function = 0; function < 4; function++) {
            due("told", t.told(function + 1), 1);
            due("its sign", t.node(function, 0, 0), '!');
            due("its nodes", t.node(function, 0, 1), 1);
            due("its depth", t.node(function, 0, 2), 0);
            due("no other", t.node(function, 1, 0), UNKNOWN);
            due("it may not", t.may(function, ALL[function]), 0);
            for (int way = 0; way < 4; way++) {
                due("it ends", t.run(function, 0, way, 0), 8);
                due("in a step", t.run(function, 0, way, 1), 1);
            }
        }
    }

    private static void emptyPad() {
        checks.sentence("the PAD is empty");
        Subject t = new Subject();
        padIsEmpty("new", t);
        t.write("+01");
        t.wipe();
        padIsEmpty("wiped", t);
        t.write("f0");
        due("body", t.body(F), 2);
        padIsEmpty("behind body", t);
        due("a sign", t.say('0'), 1);
    }

    private static void padIsEmpty(String when, Subject t) {
        due(when + " told(0)", t.told(0), 0);
        for (int function = 0; function < 4; function++) {
            due(when + " fault", t.fault(function), 0);
            due(when + " body", t.body(function), NO);
        }
        due(when + " wipe", t.wipe(), 0);
    }

    private static void sayCounts() {
        checks.sentence("A sign more: how many. OUTSIDE; FULL.");
        Subject t = new Subject();
        for (int count = 1; count <= 30; count++) {
            due("say", t.say('0'), count);
            due("told(0)", t.told(0), count);
        }
        due("one more", t.say('0'), FULL);
        due("OUTSIDE is ahead of FULL", t.say(32), OUTSIDE);
        due("OUTSIDE is ahead of FULL", t.say(127), OUTSIDE);
        due("again", t.say('0'), FULL);
        due("told(0)", t.told(0), 30);
    }

    private static void wipeEmpties() {
        checks.sentence("The PAD is emptied: how many signs there were");
        for (int count = 0; count <= 30; count++) {
            Subject t = withPad("+".repeat(count));
            due("wipe", t.wipe(), count);
            due("told(0)", t.told(0), 0);
            due("wipe again", t.wipe(), 0);
            due("say", t.say('7'), 1);
            due("only the new one is there", t.fault(F), NONE);
        }
        Subject t = with("fx", "3", "?xyz", "+xy");
        t.write("+1");
        t.wipe();
        int[] nodes = {2, 1, 4, 3};
        for (int function = 0; function < 4; function++) {
            due("BODIES stay", t.told(function + 1), nodes[function]);
        }
        due("and run", t.run(K, 11, 0, 0), 3);
    }

    private static void faultOfThePad() {
        checks.sentence("THE FAULT of the PAD for a FUNCTION; NONE. UNKNOWN.");
        Subject t = withPad("+xy");
        int[] want = {2, NONE, NONE, NONE};
        for (int round = 0; round < 2; round++) {
            for (int function = 0; function < 4; function++) {
                due("fault", t.fault(function), want[function]);
            }
            due("the PAD stays", t.told(0), 3);
        }
        due("no FUNCTION", t.fault(4), UNKNOWN);
        due("no FUNCTION", t.fault(-1), UNKNOWN);
        due("BODIES stay", t.told(2), 1);
    }

    private static void bodyTakesThePad() {
        checks.sentence("The PAD becomes the BODY of a FUNCTION (it is empty then): its signs");
        for (int function = 0; function < 4; function++) {
            Subject t = withPad("7");
            due("of one sign", t.body(function), 1);
            due("the PAD", t.told(0), 0);
            t.write("f" + ONES);
            due("of thirty", t.body(function), 30);
            due("the PAD", t.told(0), 0);
            for (int other = 0; other < 4; other++) {
                due("NODES", t.told(other + 1), other == function ? 30 : 1);
                due("the others stay", t.node(other, 0, 0), other == function ? 'f' : '!');
            }
            t.write("+35");
            due("a shorter one", t.body(function), 3);
            due("NODES", t.told(function + 1), 3);
            due("it runs", t.run(function, 0, 1, 0), 0);
            due("in three steps", t.run(function, 0, 1, 1), 3);
        }
    }

    /** A text of thirty signs that comes to 13 times a NUMBER. */
    private static String thirty(int number) {
        return "?0" + ones(13).replace("1", "" + number) + "+0" + number;
    }

    private static void fourFullBodies() {
        checks.sentence("The PAD becomes the BODY of a FUNCTION (of this one alone, though all four have thirty signs)");
        int[][] orders = {{F, G, H, K}, {K, H, G, F}, {G, F, K, H}};
        for (int[] order : orders) {
            Subject t = new Subject();
            for (int function : order) {
                t.put(function, thirty(function + 3));
            }
            fullBodiesAre(t, -1);
        }
        for (int shorter = 0; shorter < 4; shorter++) {
            Subject t = with(thirty(3), thirty(4), thirty(5), thirty(6));
            t.put(shorter, "7");
            due("the shorter one", t.node(shorter, 0, 0), '7');
            due("the shorter one", t.run(shorter, 0, 0, 0), 7);
            fullBodiesAre(t, shorter);
        }
    }

    private static void fullBodiesAre(Subject t, int but) {
        for (int function = 0; function < 4; function++) {
            if (function != but) {
                String text = thirty(function + 3);
                for (int node = 0; node < 30; node++) {
                    due("sign " + node + " of " + function, t.node(function, node, 0), text.charAt(node));
                }
                due("all within " + function, t.node(function, 0, 1), 30);
                due("the last of " + function, t.node(function, 29, 2), 2);
                due("run of " + function, t.run(function, 0, 0, 0), 13 * (function + 3) % 8);
                due("uses of " + function, t.uses(function, 0), 0);
                due("may of " + function, t.may(function, 0), 1);
            }
        }
    }

    private static void bodyRefuses() {
        checks.sentence("UNKNOWN; NO: there is a FAULT");
        for (String text : new String[] {"", "8", "+0", "00", "z", "fffffffff+00", "?" + ONES}) {
            Subject t = with("3", "4", "5", "6");
            t.write(text);
            for (int function : new int[] {F, G, K}) {
                due("body(" + function + ") of " + text, t.body(function), NO);
                due("its BODY stays", t.node(function, 0, 0), "3456".charAt(function));
                due("one NODE", t.told(function + 1), 1);
            }
            for (int function : NO_FUNCTIONS) {
                due("UNKNOWN is ahead of NO", t.body(function), UNKNOWN);
            }
            due("the PAD stays", t.told(0), text.length());
        }
        Subject t = with("3", "4", "5", "6");
        t.write("z");
        due("a FAULT for g", t.body(G), NO);
        due("none for h", t.body(H), 1);
        due("h is z", t.node(H, 0, 0), 'z');
        due("g stays", t.node(G, 0, 0), '4');
    }

    private static void nodesAsTheyAreWritten() {
        checks.sentence("they are numbered as they are written");
        String text = "?xh+yz*12m34kf5-x6";
        Subject t = with(H, text);
        for (int node = 0; node < text.length(); node++) {
            due("node(H, " + node + ", 0)", t.node(H, node, 0), text.charAt(node));
        }
        for (int node : new int[] {-1, text.length(), 30, MIN, MAX}) {
            for (int what = -1; what <= 3; what++) {
                due("node(H, " + node + ", " + what + ")", t.node(H, node, what), UNKNOWN);
            }
        }
        Subject full = with(K, "f" + ONES);
        due("the last of thirty", full.node(K, 29, 0), '1');
        due("behind it", full.node(K, 30, 0), UNKNOWN);
        due("another BODY has one", full.node(H, 1, 0), UNKNOWN);
        full.put(K, "+xy");
        due("the last of three", full.node(K, 2, 0), 'y');
        due("behind it", full.node(K, 3, 0), UNKNOWN);
        due("of the old one", full.node(K, 29, 0), UNKNOWN);
    }

    private static void nodesAre(int what, int... want) {
        Subject t = with(H, "?xh+yz*12m34kf5-x6");
        for (int node = 0; node < want.length; node++) {
            due("node(H, " + node + ", " + what + ")", t.node(H, node, what), want[node]);
        }
    }

    private static void nodesWithAllWithin() {
        checks.sentence("1 how many NODES it has with all within");
        nodesAre(1, 18, 1, 10, 3, 1, 1, 3, 1, 1, 3, 1, 1, 6, 2, 1, 3, 1, 1);
        Subject full = with(F, "f" + ONES);
        due("the most", full.node(F, 0, 1), 30);
        due("all but the first", full.node(F, 1, 1), 29);
        due("the least", full.node(F, 29, 1), 1);
    }

    private static void nodesWithinOthers() {
        checks.sentence("2 within how many others it lies");
        nodesAre(2, 0, 1, 1, 2, 3, 3, 2, 3, 3, 2, 3, 3, 1, 2, 3, 2, 3, 3);
        Subject deep = with(G, "+0".repeat(9) + "0");
        for (int node = 0; node < 18; node++) {
            due("node(G, " + node + ", 2)", deep.node(G, node, 2), (node + 1) / 2);
        }
        due("the most", deep.node(G, 18, 2), 9);
        deep.put(G, "+f00");
        int[] again = {0, 1, 2, 1};
        for (int node = 0; node < 4; node++) {
            due("of a new BODY", deep.node(G, node, 2), again[node]);
        }
    }

    private static void nodeWhat() {
        checks.sentence("node: UNKNOWN; OUTSIDE");
        Subject t = with(F, "f0");
        for (int what : new int[] {-1, 3, MIN, MAX}) {
            due("what " + what, t.node(F, 0, what), OUTSIDE);
            due("what " + what, t.node(F, 1, what), OUTSIDE);
            due("UNKNOWN is ahead", t.node(F, 2, what), UNKNOWN);
            due("UNKNOWN is ahead", t.node(F, -1, what), UNKNOWN);
            due("UNKNOWN is ahead", t.node(4, 0, what), UNKNOWN);
            due("UNKNOWN is ahead", t.node(-1, 0, what), UNKNOWN);
        }
        due("what 0", t.node(F, 1, 0), '0');
        due("what 2", t.node(F, 1, 2), 1);
    }

    private static void toldWhat() {
        checks.sentence("0 signs, 1 to 4 NODES of BODIES 0 to 3. OUTSIDE.");
        Subject t = with("fx", "+x+y1", "f" + ONES, null);
        t.write("1234567");
        int[] want = {7, 2, 5, 30, 1};
        for (int what = 0; what < 5; what++) {
            due("told(" + what + ")", t.told(what), want[what]);
        }
        for (int what : new int[] {-1, 5, MIN, MAX}) {
            due("told(" + what + ")", t.told(what), OUTSIDE);
        }
    }
}
