import java.util.ArrayList;
import java.util.List;

/**
 * The document once more, in another shape: trees, scopes as objects, Java's own recursion, one set of
 * ARGUMENTS at a time, nothing remembered from call to call. It knows BODIES without a FAULT only.
 */
final class Oracle {
    static final int[] ARGUMENTS = {1, 2, 3, 2};

    /** A text. */
    static final class Text {
        final char sign;
        final int depth;
        final List<Text> own = new ArrayList<>();

        Text(char sign, int depth) {
            this.sign = sign;
            this.depth = depth;
        }

        int nodes() {
            int sum = 1;
            for (Text text : own) {
                sum += text.nodes();
            }
            return sum;
        }

        void list(List<Text> into) {
            into.add(this);
            for (Text text : own) {
                text.list(into);
            }
        }
    }

    /** THE FAULT. */
    static final class Fault extends RuntimeException {
        private static final long serialVersionUID = 1L;
        final int place;

        Fault(int place) {
            this.place = place;
        }
    }

    /** The end of a RUN that does not come back with a NUMBER. */
    private static final class End extends RuntimeException {
        private static final long serialVersionUID = 1L;
        final int end;

        End(int end) {
            super(null, null, false, false);
            this.end = end;
        }
    }

    /** An ARGUMENT: a told one, or a text with the ARGUMENTS among which it is worked. */
    private static final class Argument {
        int number = -1;
        boolean told;
        Text text;
        Argument[] among;
    }

    final Text[] bodies = new Text[4];
    private final boolean[][] table = new boolean[4][8];
    private final int[][] uses = new int[4][3];
    private int place;
    private int steps;
    private int way;

    Oracle() {
        for (int function = 0; function < 4; function++) {
            bodies[function] = new Text('!', 0);
        }
    }

    static int functionOf(char sign) {
        return "fghk".indexOf(sign);
    }

    static int ownTexts(char sign) {
        if ("+-*m".indexOf(sign) >= 0) {
            return 2;
        }
        if (sign == '?') {
            return 3;
        }
        return functionOf(sign) >= 0 ? ARGUMENTS[functionOf(sign)] : 0;
    }

    /** The tree of a text; throws a Fault. */
    Text read(String signs, int function) {
        place = 0;
        Text text = readText(signs, function, 0);
        if (place < signs.length()) {
            throw new Fault(place);
        }
        return text;
    }

    private Text readText(String signs, int function, int depth) {
        if (place >= signs.length()) {
            throw new Fault(signs.length());
        }
        char sign = signs.charAt(place);
        boolean leaf = "01234567!".indexOf(sign) >= 0 || "xyz".substring(0, ARGUMENTS[function]).indexOf(sign) >= 0;
        if (!leaf && (ownTexts(sign) == 0 || depth == 9)) {
            throw new Fault(place);
        }
        place++;
        Text text = new Text(sign, depth);
        for (int i = 0; i < ownTexts(sign); i++) {
            text.own.add(readText(signs, function, depth + 1));
        }
        return text;
    }

    int fault(String signs, int function) {
        try {
            read(signs, function);
            return -6;
        } catch (Fault fault) {
            return fault.place;
        }
    }

    void body(int function, String signs) {
        bodies[function] = read(signs, function);
        workTables();
        workUses();
    }

    // ---- runs

    /** How a RUN ENDS, and its STEPS. */
    int[] run(int function, int arguments, int way) {
        this.way = way;
        steps = 0;
        Argument[] among = new Argument[ARGUMENTS[function]];
        int rest = arguments;
        for (int i = among.length - 1; i >= 0; i--) {
            among[i] = new Argument();
            among[i].told = true;
            among[i].number = rest % 9;
            rest /= 9;
        }
        try {
            for (int i = 0; i < among.length; i++) {
                if (ahead(function, i) && among[i].number == 8) {
                    throw new End(8);
                }
            }
            return new int[] {work(bodies[function], among), steps};
        } catch (End end) {
            return new int[] {end.end, steps};
        }
    }

    private boolean ahead(int function, int argument) {
        return way == 2 || way == 3 && (must(function) >> argument & 1) == 1;
    }

    private int work(Text text, Argument[] among) {
        if (steps == 300) {
            throw new End(9);
        }
        steps++;
        char sign = text.sign;
        if (sign >= '0' && sign <= '7') {
            return sign - '0';
        }
        if (sign == '!') {
            throw new End(8);
        }
        if (sign >= 'x' && sign <= 'z') {
            return ask(among[sign - 'x']);
        }
        if (sign == '?') {
            return work(text.own.get(work(text.own.get(0), among) == 0 ? 1 : 2), among);
        }
        if (functionOf(sign) >= 0) {
            return call(functionOf(sign), text.own, among);
        }
        int first = work(text.own.get(0), among);
        int second = work(text.own.get(1), among);
        switch (sign) {
            case '+':
                return Math.floorMod(first + second, 8);
            case '-':
                return Math.floorMod(first - second, 8);
            case '*':
                return Math.floorMod(first * second, 8);
            default:
                return first < second ? first : second;
        }
    }

    private int ask(Argument argument) {
        if (argument.told) {
            if (argument.number == 8) {
                throw new End(8);
            }
            return argument.number;
        }
        if (argument.number >= 0) {
            return argument.number;
        }
        int number = work(argument.text, argument.among);
        if (way != 0) {
            argument.number = number;
        }
        return number;
    }

    private int call(int function, List<Text> texts, Argument[] among) {
        Argument[] made = new Argument[texts.size()];
        for (int i = 0; i < made.length; i++) {
            made[i] = new Argument();
            made[i].text = texts.get(i);
            made[i].among = among;
            if (ahead(function, i)) {
                made[i].number = work(texts.get(i), among);
            }
        }
        return work(bodies[function], made);
    }

    // ---- tables

    private void workTables() {
        for (boolean[] row : table) {
            java.util.Arrays.fill(row, false);
        }
        boolean changed = true;
        while (changed) {
            changed = false;
            boolean[][] next = new boolean[4][8];
            for (int function = 0; function < 4; function++) {
                for (int set = 0; set < 1 << ARGUMENTS[function]; set++) {
                    next[function][set] = mayText(bodies[function], set);
                    changed |= next[function][set] != table[function][set];
                }
            }
            for (int function = 0; function < 4; function++) {
                System.arraycopy(next[function], 0, table[function], 0, 8);
            }
        }
    }

    boolean mayText(Text text, int there) {
        char sign = text.sign;
        if (sign >= '0' && sign <= '7') {
            return true;
        }
        if (sign == '!') {
            return false;
        }
        if (sign >= 'x' && sign <= 'z') {
            return (there >> sign - 'x' & 1) == 1;
        }
        boolean[] own = new boolean[text.own.size()];
        int set = 0;
        for (int i = 0; i < own.length; i++) {
            own[i] = mayText(text.own.get(i), there);
            set |= own[i] ? 1 << i : 0;
        }
        if (sign == '?') {
            return own[0] && (own[1] || own[2]);
        }
        return functionOf(sign) >= 0 ? table[functionOf(sign)][set] : own[0] && own[1];
    }

    boolean may(int function, int there) {
        return table[function][there];
    }

    int mustText(Text text, int function) {
        int all = (1 << ARGUMENTS[function]) - 1;
        int bits = 0;
        for (int i = 0; i < ARGUMENTS[function]; i++) {
            bits |= mayText(text, all - (1 << i)) ? 0 : 1 << i;
        }
        return bits;
    }

    int must(int function) {
        int all = (1 << ARGUMENTS[function]) - 1;
        int bits = 0;
        for (int i = 0; i < ARGUMENTS[function]; i++) {
            bits |= table[function][all - (1 << i)] ? 0 : 1 << i;
        }
        return bits;
    }

    List<Integer> joints(int function) {
        int all = (1 << ARGUMENTS[function]) - 1;
        List<Integer> stopping = new ArrayList<>();
        for (int set = 0; set <= all; set++) {
            if (!table[function][all - set]) {
                stopping.add(set);
            }
        }
        List<Integer> joints = new ArrayList<>();
        for (int set : stopping) {
            boolean least = true;
            for (int other : stopping) {
                least &= other == set || (other & set) != other;
            }
            if (least) {
                joints.add(set);
            }
        }
        return joints;
    }

    // ---- uses

    private void workUses() {
        for (int[] row : uses) {
            java.util.Arrays.fill(row, 0);
        }
        boolean changed = true;
        while (changed) {
            changed = false;
            for (int function = 0; function < 4; function++) {
                for (int i = 0; i < ARGUMENTS[function]; i++) {
                    int count = usesOf(bodies[function], i);
                    changed |= count != uses[function][i];
                    uses[function][i] = count;
                }
            }
        }
    }

    private int usesOf(Text text, int argument) {
        char sign = text.sign;
        if (text.own.isEmpty()) {
            return sign == 'x' + argument ? 1 : 0;
        }
        int sum = 0;
        if (sign == '?') {
            sum = usesOf(text.own.get(0), argument)
                + Math.max(usesOf(text.own.get(1), argument), usesOf(text.own.get(2), argument));
        } else {
            for (int i = 0; i < text.own.size(); i++) {
                int times = functionOf(sign) >= 0 ? uses[functionOf(sign)][i] : 1;
                sum += times * usesOf(text.own.get(i), argument);
            }
        }
        return Math.min(2, sum);
    }

    int uses(int function, int argument) {
        return uses[function][argument];
    }

    // ---- all arguments

    /** The rows of ARGUMENTS with digits 0 to 7 alone, in order. */
    static List<Integer> numberRows(int function) {
        List<Integer> rows = new ArrayList<>();
        for (int row = 0; row < Math.pow(9, ARGUMENTS[function]); row++) {
            if (Integer.toString(row, 9).indexOf('8') < 0) {
                rows.add(row);
            }
        }
        return rows;
    }
}
