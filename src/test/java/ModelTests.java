import java.util.ArrayDeque;
import java.util.ArrayList;
import java.util.Arrays;
import java.util.List;
import java.util.NoSuchElementException;
import java.util.Random;

/**
 * Compares the class with a second, slower writing of the document, call by call, on drawn runs of calls. The model
 * scans texts sign by sign, keeps expressions as trees, and executes the end expressions in place of the statements.
 */
public final class ModelTests {
    private static final int RUNS = 3000;
    private static final int CALLS = 512;

    public static void main(String[] args) {
        int wrong = 0;
        long calls = 0;
        int[] thrown = new int[1];
        for (int seed = 1; seed <= RUNS && wrong < 10; seed++) {
            List<String> run = new ArrayList<>();
            Random random = new Random(seed);
            ReductionFinder object = new ReductionFinder();
            Model model = new Model();
            Script script = new Script(random);
            for (int call = 0; call < CALLS; call++) {
                Call next = script.draw();
                String got = answer(() -> next.onObject(object));
                String want = answer(() -> next.onModel(model));
                calls++;
                if (want.startsWith("throws")) {
                    thrown[0]++;
                }
                run.add(next + " -> " + got);
                if (!got.equals(want)) {
                    wrong++;
                    System.out.println("seed " + seed + ": " + next + " answered " + got + ", due is " + want);
                    System.out.println(run);
                    break;
                }
            }
        }
        System.out.println("ModelTests: " + calls + " calls, " + thrown[0] + " of them with exceptions, " + wrong + " wrong");
        if (wrong != 0) {
            System.exit(1);
        }
    }

    private interface Answer {
        Object get();
    }

    private static String answer(Answer call) {
        try {
            Object value = call.get();
            // Zeros of both signs are the same answer.
            if (value instanceof Float && ((Float) value) == 0.0f) {
                return "0.0";
            }
            return String.valueOf(value);
        } catch (RuntimeException e) {
            return "throws " + e.getClass().getSimpleName();
        }
    }

    /** One call, by the number of its promise, with up to three arguments. */
    private static final class Call {
        final int promise;
        final int p;
        final int q;
        final int r;

        Call(int promise, int p, int q, int r) {
            this.promise = promise;
            this.p = p;
            this.q = q;
            this.r = r;
        }

        Object onObject(ReductionFinder x) {
            switch (promise) {
                case 2: return x.append(p);
                case 3: return x.load();
                case 4: return x.faultPosition();
                case 5: return x.statements();
                case 6: return x.setMode(p);
                case 7: return x.setCount(p);
                case 8: return x.setElement(p, q, r);
                case 9: return x.fill(p, q);
                case 10: return x.element(p, q);
                case 11: return x.setInitial(p, q);
                case 12: return x.kind(p);
                case 13: return x.operator(p);
                case 14: return x.terms(p);
                case 15: return x.depends(p);
                case 16: return x.nodes(p);
                case 17: return x.height(p);
                case 18: return x.open(p);
                case 19: return x.hasNext();
                case 20: return x.next();
                case 21: return x.isParallel();
                case 22: return x.isExact(p);
                case 23: return x.execute(p, q);
                case 24: return x.result(p);
                case 25: return x.resultFloat(p);
                case 26: return x.difference(p);
                case 27: return x.cost(p, q);
                case 28: return x.cheapest();
                case 29: x.save(); return "saved";
                default: x.restore(); return "restored";
            }
        }

        Object onModel(Model x) {
            switch (promise) {
                case 2: return x.append(p);
                case 3: return x.load();
                case 4: return x.fault;
                case 5: return x.now.statements.size();
                case 6: return x.setMode(p);
                case 7: return x.setCount(p);
                case 8: return x.setElement(p, q, r);
                case 9: return x.fill(p, q);
                case 10: return x.element(p, q);
                case 11: return x.setInitial(p, q);
                case 12: return x.kind(x.variable(p));
                case 13: return x.operator(p);
                case 14: return x.terms(p);
                case 15: return x.now.ends[x.variable(p)].mask();
                case 16: return (int) x.now.ends[x.variable(p)].size;
                case 17: return x.now.ends[x.variable(p)].height();
                case 18: return x.open(p);
                case 19: return x.hasNext();
                case 20: return x.next();
                case 21: return x.parallel();
                case 22: return x.exact(x.variable(p));
                case 23: return x.execute(p, q);
                case 24: return x.result(p);
                case 25: return x.resultFloat(p);
                case 26: return x.difference(p);
                case 27: return x.cost(p, q);
                case 28: return x.cheapest();
                case 29: x.saved = x.now.copy(); return "saved";
                default: x.restore(); return "restored";
            }
        }

        @Override
        public String toString() {
            return "promise " + promise + " (" + p + ", " + q + ", " + r + ")";
        }
    }

    /** Draws calls; a text is drawn whole and then appended and loaded call by call. */
    private static final class Script {
        private final Random random;
        private final ArrayDeque<Call> planned = new ArrayDeque<>();

        Script(Random random) {
            this.random = random;
        }

        Call draw() {
            if (!planned.isEmpty() && random.nextInt(12) != 0) {
                return planned.poll();
            }
            int drawn = random.nextInt(100);
            if (drawn < 7) {
                planText();
                return new Call(3, 0, 0, 0);
            }
            if (drawn < 9) {
                return new Call(2, random.nextInt(), 0, 0);
            }
            if (drawn < 22) {
                return new Call(23, pick(4), 1 + pick(8), 0);
            }
            if (drawn < 32) {
                return new Call(24 + random.nextInt(3), pick(8), 0, 0);
            }
            int promise = 2 + random.nextInt(29);
            switch (promise) {
                case 2: return new Call(2, "s=1;t+a".charAt(random.nextInt(7)), 0, 0);
                case 3: return new Call(19, 0, 0, 0);
                case 6: return new Call(6, pick(2), 0, 0);
                case 7: return new Call(7, pick(17), 0, 0);
                case 8: return new Call(8, pick(3), pick(16), pick(199) - 99);
                case 9: return new Call(9, pick(3), random.nextInt(), 0);
                case 10: return new Call(10, pick(3), pick(16), 0);
                case 11: return new Call(11, pick(8), pick(1999) - 999, 0);
                case 27: return new Call(27, pick(4), 1 + pick(8), 0);
                default: return new Call(promise, pick(8), 0, 0);
            }
        }

        /** A number from 0 to below the bound, or sometimes one beside them. */
        private int pick(int bound) {
            int drawn = random.nextInt(40);
            if (drawn == 0) {
                return bound;
            }
            if (drawn == 1) {
                return -1;
            }
            return random.nextInt(bound);
        }

        private void planText() {
            StringBuilder text = new StringBuilder();
            int count = 1 + random.nextInt(random.nextInt(8) == 0 ? 10 : 7);
            for (int statement = 0; statement < count; statement++) {
                StringBuilder one = new StringBuilder();
                char target = (char) ('s' + random.nextInt(random.nextBoolean() ? 3 : 8));
                one.append(target).append('=');
                if (random.nextInt(3) != 0) {
                    addChain(one, target);
                } else {
                    addExpression(one, random.nextInt(3), 3);
                }
                one.append(';');
                if (text.length() + one.length() <= 100) {
                    text.append(one);
                }
            }
            if (random.nextInt(5) == 0) {
                spoil(text);
            }
            for (int at = 0; at < text.length(); at += 4) {
                int packed = 0;
                for (int k = at; k < at + 4 && k < text.length(); k++) {
                    packed = packed << 8 | text.charAt(k);
                }
                planned.add(new Call(2, packed, 0, 0));
            }
            planned.add(new Call(3, 0, 0, 0));
        }

        private void spoil(StringBuilder text) {
            String signs = "stza[i]bc+-*&|^(),;=0199minmaxif_r";
            for (int times = 1 + random.nextInt(2); times > 0 && text.length() > 0; times--) {
                int at = random.nextInt(text.length());
                switch (random.nextInt(4)) {
                    case 0: text.deleteCharAt(at); break;
                    case 1: text.setLength(at); break;
                    case 2: text.insert(at, signs.charAt(random.nextInt(signs.length()))); break;
                    default: text.setCharAt(at, signs.charAt(random.nextInt(signs.length())));
                }
            }
        }

        private void addChain(StringBuilder text, char target) {
            String[] chains = {"#+?", "?+#", "#-?", "#*?", "?*#", "#&?", "#|?", "?^#", "min(#,?)", "max(?,#)",
                "if(?,#,#+?)", "if(?,#-?,?+#)", "if(?,#*?,#)", "min(min(?,#),?)", "#+(?)-(?)", "if(?,max(#,?),#)"};
            String chain = chains[random.nextInt(chains.length)];
            for (int at = 0; at < chain.length(); at++) {
                if (chain.charAt(at) == '#') {
                    text.append(target);
                } else if (chain.charAt(at) == '?') {
                    addTerm(text);
                } else {
                    text.append(chain.charAt(at));
                }
            }
        }

        private void addTerm(StringBuilder text) {
            int drawn = random.nextInt(8);
            if (drawn < 5) {
                text.append((char) ('a' + random.nextInt(3))).append("[i]");
            } else if (drawn == 5) {
                text.append(random.nextInt(100));
            } else if (drawn == 6) {
                text.append((char) ('s' + random.nextInt(8)));
            } else {
                text.append("99*99*99*99*a[i]");
            }
        }

        private void addExpression(StringBuilder text, int budget, int depth) {
            if (budget <= 0) {
                addTerm(text);
                return;
            }
            int drawn = random.nextInt(depth > 0 ? 10 : 6);
            if (drawn < 6) {
                addExpression(text, budget - 1, depth - 1);
                text.append("+-*&|^".charAt(random.nextInt(drawn < 3 ? 3 : 6)));
                addExpression(text, budget - 2, depth - 1);
            } else if (drawn < 8) {
                text.append('(');
                addExpression(text, budget - 1, depth - 1);
                text.append(')');
            } else {
                text.append(drawn == 8 ? random.nextBoolean() ? "min(" : "max(" : "if(");
                for (int operand = drawn == 8 ? 2 : 3; operand > 0; operand--) {
                    addExpression(text, budget - 1, depth - 1);
                    text.append(operand > 1 ? ',' : ')');
                }
            }
        }
    }

    private static final class Tree {
        final int code;
        final Tree[] parts;
        final long size;

        Tree(int code, Tree... parts) {
            this.code = code;
            this.parts = parts;
            long nodes = 1;
            for (Tree part : parts) {
                nodes += part.size;
            }
            size = Math.min(nodes, 1000000);
        }

        int height() {
            int greatest = 0;
            for (Tree part : parts) {
                greatest = Math.max(greatest, part.height());
            }
            return 1 + greatest;
        }

        int mask() {
            int mask = code >= 100 && code < 108 ? 1 << (code - 100) : 0;
            for (Tree part : parts) {
                mask |= part.mask();
            }
            return mask;
        }

        boolean has(int variable) {
            return (mask() >> variable & 1) == 1;
        }

        Tree replaced(Tree[] by) {
            if (code >= 100 && code < 108) {
                return by[code - 100];
            }
            Tree[] others = new Tree[parts.length];
            for (int k = 0; k < parts.length; k++) {
                others[k] = parts[k].replaced(by);
            }
            return new Tree(code, others);
        }

        void list(List<Integer> codes) {
            codes.add(code);
            for (Tree part : parts) {
                part.list(codes);
            }
        }

        int operations() {
            int count = code >= 300 ? 1 : 0;
            for (Tree part : parts) {
                count += part.operations();
            }
            return count;
        }

        boolean bitwise() {
            boolean found = code >= 302 && code <= 304;
            for (Tree part : parts) {
                found |= part.bitwise();
            }
            return found;
        }

        boolean isChain(int v, int o) {
            if (code == 100 + v) {
                return true;
            }
            if (code == 308) {
                return !parts[0].has(v) && parts[1].isChain(v, o) && parts[2].isChain(v, o);
            }
            if (code == 307) {
                return o == 0 && parts[0].isChain(v, o) && !parts[1].has(v);
            }
            return code == 300 + o && (parts[0].isChain(v, o) && !parts[1].has(v) || parts[1].isChain(v, o) && !parts[0].has(v));
        }

        int chainTerms(int v) {
            if (code == 100 + v) {
                return 0;
            }
            if (code == 308) {
                return parts[1].chainTerms(v) + parts[2].chainTerms(v);
            }
            return 1 + parts[parts[0].has(v) ? 0 : 1].chainTerms(v);
        }
    }

    /** Scans a text sign by sign and keeps what may come next; a sound text is then built into trees. */
    private static final class Scanner {
        static int faultOf(String text) {
            // What may follow: v a variable to assign, = and so on themselves, f a factor, o what comes behind a factor.
            String literal = "";
            char state = 'v';
            int function = -1;
            ArrayDeque<Integer> commas = new ArrayDeque<>();
            boolean secondDigit = false;
            for (int k = 0; k < text.length(); k++) {
                char c = text.charAt(k);
                if (!literal.isEmpty()) {
                    if (literal.charAt(0) != c) {
                        return k;
                    }
                    if (c == '(' && commas.size() == 4) {
                        return k;
                    }
                    literal = literal.substring(1);
                    if (c == '(') {
                        commas.push(function);
                    }
                } else if (state == 'v') {
                    if ("stuvwxyz".indexOf(c) < 0) {
                        return k;
                    }
                    literal = "=";
                    state = 'f';
                } else if (state == 'm') {
                    if (c != 'i' && c != 'a') {
                        return k;
                    }
                    literal = c == 'i' ? "n(" : "x(";
                    function = 1;
                    state = 'f';
                } else if (state == 'f') {
                    secondDigit = c >= '1' && c <= '9';
                    if ("0123456789stuvwxyz".indexOf(c) >= 0) {
                        state = 'o';
                    } else if ("abc".indexOf(c) >= 0) {
                        literal = "[i]";
                        state = 'o';
                    } else if (c == 'm') {
                        state = 'm';
                    } else if (c == 'i') {
                        literal = "f(";
                        function = 2;
                    } else if (c == '(' && commas.size() < 4) {
                        commas.push(0);
                    } else {
                        return k;
                    }
                } else if (secondDigit && c >= '0' && c <= '9') {
                    secondDigit = false;
                } else if ("+-*&|^".indexOf(c) >= 0) {
                    state = 'f';
                } else if (c == ',' && !commas.isEmpty() && commas.peek() > 0) {
                    commas.push(commas.pop() - 1);
                    state = 'f';
                } else if (c == ')' && !commas.isEmpty() && commas.peek() == 0) {
                    commas.pop();
                    secondDigit = false;
                } else if (c == ';' && commas.isEmpty()) {
                    state = 'v';
                } else {
                    return k;
                }
            }
            return state == 'v' && literal.isEmpty() && !text.isEmpty() ? -1 : text.length();
        }

        /** Splits at the last operator of the lowest rank, which is the one that is applied last. */
        static Tree build(String text) {
            int split = -1;
            int rank = 3;
            int open = 0;
            for (int k = 0; k < text.length(); k++) {
                char c = text.charAt(k);
                open += c == '(' ? 1 : c == ')' ? -1 : 0;
                int own = "&|^".indexOf(c) >= 0 ? 0 : "+-".indexOf(c) >= 0 ? 1 : c == '*' ? 2 : 9;
                if (open == 0 && own <= rank) {
                    rank = own;
                    split = k;
                }
            }
            if (split >= 0) {
                int code = 300 + "+*&|^nx-".indexOf(text.charAt(split));
                return new Tree(code, build(text.substring(0, split)), build(text.substring(split + 1)));
            }
            char c = text.charAt(0);
            if (c == '(') {
                return build(text.substring(1, text.length() - 1));
            }
            if (c >= '0' && c <= '9') {
                return new Tree(Integer.parseInt(text));
            }
            if (text.length() == 1) {
                return new Tree(100 + c - 's');
            }
            if (text.endsWith("[i]") && text.length() == 4) {
                return new Tree(200 + c - 'a');
            }
            int code = text.startsWith("min") ? 305 : text.startsWith("max") ? 306 : 308;
            List<Tree> parts = new ArrayList<>();
            int from = text.indexOf('(') + 1;
            open = 0;
            for (int k = from; k < text.length(); k++) {
                char d = text.charAt(k);
                if (open == 0 && (d == ',' || d == ')')) {
                    parts.add(build(text.substring(from, k)));
                    from = k + 1;
                }
                open += d == '(' ? 1 : d == ')' ? -1 : 0;
            }
            return new Tree(code, parts.toArray(new Tree[0]));
        }
    }

    private static final class State {
        int mode = 0;
        int n = 0;
        int[][] elements = new int[3][16];
        int[] initials = new int[8];
        List<Tree> statements = new ArrayList<>();
        List<Integer> targets = new ArrayList<>();
        Tree[] ends = starts();

        static Tree[] starts() {
            Tree[] trees = new Tree[8];
            for (int v = 0; v < 8; v++) {
                trees[v] = new Tree(100 + v);
            }
            return trees;
        }

        State copy() {
            State other = new State();
            other.mode = mode;
            other.n = n;
            for (int a = 0; a < 3; a++) {
                other.elements[a] = elements[a].clone();
            }
            other.initials = initials.clone();
            other.statements = statements;
            other.targets = targets;
            other.ends = ends;
            return other;
        }
    }

    private static final class Model {
        State now = new State();
        State saved = null;
        String buffer = "";
        int fault = -1;
        List<Integer> cursor = null;
        Object[] results = null;
        int resultMode = -1;

        int variable(int v) {
            if (v < 0 || v > 7) {
                throw new IndexOutOfBoundsException();
            }
            return v;
        }

        private void checkElement(int array, int index) {
            if (array < 0 || array > 2 || index < 0 || index > 15) {
                throw new IndexOutOfBoundsException();
            }
        }

        private static void argument(boolean good) {
            if (!good) {
                throw new IllegalArgumentException();
            }
        }

        private static void state(boolean good) {
            if (!good) {
                throw new IllegalStateException();
            }
        }

        private static void supported(boolean good) {
            if (!good) {
                throw new UnsupportedOperationException();
            }
        }

        int append(int packed) {
            StringBuilder added = new StringBuilder();
            for (int k = 3; k >= 0; k--) {
                int sign = packed >>> (8 * k) & 0xff;
                argument(sign == 0 || sign >= 33 && sign <= 126);
                if (sign != 0) {
                    added.append((char) sign);
                }
            }
            state(buffer.length() + added.length() <= 100);
            buffer += added;
            return buffer.length();
        }

        int load() {
            String text = buffer;
            buffer = "";
            fault = Scanner.faultOf(text);
            argument(fault == -1);
            String[] lines = text.split(";");
            state(lines.length <= 8);
            List<Tree> statements = new ArrayList<>();
            List<Integer> targets = new ArrayList<>();
            Tree[] ends = State.starts();
            for (String line : lines) {
                Tree tree = Scanner.build(line.substring(2));
                int target = line.charAt(0) - 's';
                statements.add(tree);
                targets.add(target);
                Tree end = tree.replaced(ends);
                state(end.size <= 200);
                ends[target] = end;
            }
            now.statements = statements;
            now.targets = targets;
            now.ends = ends;
            cursor = null;
            resultMode = -1;
            return statements.size();
        }

        void restore() {
            state(saved != null);
            now = saved.copy();
            cursor = null;
            resultMode = -1;
        }

        int setMode(int mode) {
            argument(mode == 0 || mode == 1);
            int old = now.mode;
            now.mode = mode;
            return old;
        }

        int setCount(int n) {
            argument(n >= 0 && n <= 16);
            int old = now.n;
            now.n = n;
            return old;
        }

        int setElement(int array, int index, int value) {
            checkElement(array, index);
            argument(Math.abs(value) <= 99);
            int old = now.elements[array][index];
            now.elements[array][index] = value;
            return old;
        }

        int element(int array, int index) {
            checkElement(array, index);
            return now.elements[array][index];
        }

        int fill(int array, int seed) {
            checkElement(array, 0);
            int z = seed;
            for (int index = 0; index < 16; index++) {
                z = (int) (z * 1664525L + 1013904223L);
                now.elements[array][index] = (int) ((z & 0xffffffffL) / 256 % 199) - 99;
            }
            return Arrays.stream(now.elements[array]).sum();
        }

        int setInitial(int v, int value) {
            variable(v);
            argument(Math.abs(value) <= 999);
            int old = now.initials[v];
            now.initials[v] = value;
            return old;
        }

        int chainOperator(int v) {
            for (int o = 0; o < 7; o++) {
                if (now.ends[v].isChain(v, o)) {
                    return o;
                }
            }
            return -1;
        }

        int kind(int v) {
            if (!now.targets.contains(v)) {
                return 0;
            }
            boolean own = now.ends[v].has(v);
            boolean others = false;
            for (int u : now.targets) {
                others |= u != v && now.ends[u].has(v);
            }
            if (!own && !others) {
                return 1;
            }
            if (chainOperator(v) < 0) {
                return 4;
            }
            return others ? 3 : 2;
        }

        int operator(int v) {
            int kind = kind(variable(v));
            supported(kind == 2 || kind == 3);
            return chainOperator(v);
        }

        int terms(int v) {
            operator(v);
            return now.ends[v].chainTerms(v);
        }

        int open(int v) {
            Tree end = now.ends[variable(v)];
            cursor = new ArrayList<>();
            end.list(cursor);
            return cursor.size();
        }

        boolean hasNext() {
            state(cursor != null);
            return !cursor.isEmpty();
        }

        int next() {
            state(cursor != null);
            if (cursor.isEmpty()) {
                throw new NoSuchElementException();
            }
            return cursor.remove(0);
        }

        boolean parallel() {
            for (int v = 0; v < 8; v++) {
                if (kind(v) > 2) {
                    return false;
                }
            }
            return true;
        }

        boolean exact(int v) {
            int kind = kind(v);
            return kind < 2 || kind == 2 && (now.mode == 0 || chainOperator(v) >= 5);
        }

        // ---- values: an Integer in mode 0, a Float in mode 1

        private Object value(int number) {
            if (now.mode == 0) {
                return number;
            }
            return (float) number;
        }

        private static Object calculate(int code, Object x, Object y) {
            if (x instanceof Float) {
                float p = (Float) x;
                float q = (Float) y;
                switch (code) {
                    case 305: return Math.min(p, q);
                    case 306: return Math.max(p, q);
                    default:
                        float z = code == 300 ? p + q : code == 301 ? p * q : p - q;
                        return Math.max(-1.0e30f, Math.min(1.0e30f, z));
                }
            }
            int p = (Integer) x;
            int q = (Integer) y;
            switch (code) {
                case 300: return p + q;
                case 301: return p * q;
                case 302: return p & q;
                case 303: return p | q;
                case 304: return p ^ q;
                case 305: return Math.min(p, q);
                case 306: return Math.max(p, q);
                default: return p - q;
            }
        }

        private Object evaluate(Tree tree, Object[] starts, int i) {
            if (tree.code < 100) {
                return value(tree.code);
            }
            if (tree.code < 200) {
                return starts[tree.code - 100];
            }
            if (tree.code < 300) {
                return value(now.elements[tree.code - 200][i]);
            }
            Object first = evaluate(tree.parts[0], starts, i);
            if (tree.code == 308) {
                boolean positive = ((Number) first).doubleValue() > 0;
                return evaluate(tree.parts[positive ? 1 : 2], starts, i);
            }
            return calculate(tree.code, first, evaluate(tree.parts[1], starts, i));
        }

        private Object[] initialValues() {
            Object[] values = new Object[8];
            for (int v = 0; v < 8; v++) {
                values[v] = value(now.initials[v]);
            }
            return values;
        }

        private Object[] iterate(Object[] values, List<Integer> iterations) {
            for (int i : iterations) {
                Object[] after = new Object[8];
                for (int v = 0; v < 8; v++) {
                    after[v] = evaluate(now.ends[v], values, i);
                }
                values = after;
            }
            return values;
        }

        private Object neutral(int o) {
            if (o == 5 || o == 6) {
                if (now.mode == 0) {
                    return o == 5 ? Integer.MAX_VALUE : Integer.MIN_VALUE;
                }
                return o == 5 ? 1.0e30f : -1.0e30f;
            }
            return value(o == 1 ? 1 : o == 2 ? -1 : 0);
        }

        private List<List<Integer>> parts(int order, int width) {
            List<List<Integer>> parts = new ArrayList<>();
            int count = order == 3 ? now.n : order == 0 ? 1 : width;
            int q = (int) Math.ceil(now.n / (double) count);
            for (int k = 0; k < count; k++) {
                List<Integer> part = new ArrayList<>();
                for (int i = 0; i < now.n; i++) {
                    boolean inside = order == 0 || order == 1 && i % width == k
                        || order == 2 && i >= k * q && i <= (k + 1) * q - 1 || order == 3 && i == k;
                    if (inside) {
                        part.add(i);
                    }
                }
                parts.add(part);
            }
            return parts;
        }

        private Object combined(int v, List<List<Integer>> parts, boolean tree) {
            int o = chainOperator(v);
            List<Object> row = new ArrayList<>();
            for (List<Integer> part : parts) {
                Object[] values = initialValues();
                for (int u = 0; u < 8; u++) {
                    if (kind(u) == 2) {
                        values[u] = neutral(chainOperator(u));
                    }
                }
                row.add(iterate(values, part)[v]);
            }
            while (tree && row.size() > 1) {
                List<Object> shorter = new ArrayList<>();
                for (int k = 0; k < row.size(); k += 2) {
                    shorter.add(k + 1 < row.size() ? calculate(300 + o, row.get(k), row.get(k + 1)) : row.get(k));
                }
                row = shorter;
            }
            Object value = value(now.initials[v]);
            for (Object part : row) {
                value = calculate(300 + o, value, part);
            }
            return value;
        }

        private Object[] run(int order, int width) {
            List<List<Integer>> parts = parts(order, width);
            if (order == 0 || now.n == 0) {
                return iterate(initialValues(), now.n == 0 ? List.of() : parts.get(0));
            }
            Object[] values = iterate(initialValues(), List.of(now.n - 1));
            for (int v = 0; v < 8; v++) {
                if (kind(v) == 2) {
                    values[v] = combined(v, parts, order == 3);
                }
            }
            return values;
        }

        private void checkOrder(int order, int width) {
            argument(order >= 0 && order <= 3);
            argument(order == 0 || order == 3 || width >= 1 && width <= 8);
        }

        private void checkMode() {
            for (Tree tree : now.statements) {
                supported(now.mode == 0 || !tree.bitwise());
            }
        }

        int execute(int order, int width) {
            checkOrder(order, width);
            checkMode();
            state(order == 0 || parallel());
            results = run(order, width);
            resultMode = now.mode;
            int count = 0;
            for (int v = 0; v < 8; v++) {
                if (((Number) results[v]).doubleValue() != now.initials[v]) {
                    count++;
                }
            }
            return count;
        }

        Object result(int v) {
            variable(v);
            state(resultMode == 0);
            return results[v];
        }

        Object resultFloat(int v) {
            variable(v);
            state(resultMode == 1);
            return results[v];
        }

        double difference(int v) {
            variable(v);
            state(resultMode == now.mode);
            checkMode();
            return Math.abs(((Number) results[v]).doubleValue() - ((Number) run(0, 0)[v]).doubleValue());
        }

        private int units(int order, int width) {
            int operations = 0;
            for (Tree tree : now.statements) {
                operations += tree.operations();
            }
            int reductions = 0;
            for (int v = 0; v < 8; v++) {
                reductions += kind(v) == 2 ? 1 : 0;
            }
            if (now.n == 0) {
                return 0;
            }
            int longest = 0;
            for (List<Integer> part : parts(order, width)) {
                longest = Math.max(longest, part.size());
            }
            int rows = 0;
            while (1 << rows < now.n) {
                rows++;
            }
            int perReduction = order == 0 ? 0 : order == 3 ? rows + 1 : width;
            return longest * operations + reductions * perReduction;
        }

        int cost(int order, int width) {
            checkOrder(order, width);
            state(order == 0 || parallel());
            return units(order, width);
        }

        int cheapest() {
            if (!parallel()) {
                return 0;
            }
            int[] choices = {0, 12, 14, 18, 22, 24, 28, 30};
            int best = 0;
            for (int choice : choices) {
                if (units(choice / 10, choice % 10) < units(best / 10, best % 10)) {
                    best = choice;
                }
            }
            return best;
        }
    }
}
