import java.util.NoSuchElementException;

/** What the tests of the class share: checks that count and tell, and short ways to make a finder and to look at one. */
abstract class Checks {
    static final Class<?> ARGUMENT = IllegalArgumentException.class;
    static final Class<?> STATE = IllegalStateException.class;
    static final Class<?> INDEX = IndexOutOfBoundsException.class;
    static final Class<?> UNSUPPORTED = UnsupportedOperationException.class;
    static final Class<?> NO_ELEMENT = NoSuchElementException.class;

    static final int[] NO_VARIABLES = {-1, 8, Integer.MIN_VALUE, Integer.MAX_VALUE};
    static final int[] NO_ARRAYS = {-1, 3, Integer.MIN_VALUE, Integer.MAX_VALUE};
    static final int[] NO_INDICES = {-1, 16, Integer.MIN_VALUE, Integer.MAX_VALUE};

    private static int checks = 0;
    private static int wrong = 0;
    private static String words = "";

    interface Call {
        Object answer();
    }

    /** A call on a finder that is given to it. */
    interface Deed {
        Object on(ReductionFinder x);
    }

    /** The words of the document that the checks from here on are about. */
    static void sentence(String quoted) {
        words = quoted;
    }

    static void due(Object got, Object want) {
        checks++;
        if (!plain(want).equals(plain(got))) {
            wrong++;
            System.out.println("\"" + words + "\", line " + lineOfTest() + ": answered " + got + ", due is " + want);
        }
    }

    static void dueThrow(Call call, Class<?> want) {
        due(answerOf(call), want);
    }

    /** Ends the test, with exit code 1 if a check was wrong. */
    static void tellAll(String name) {
        System.out.println(name + ": " + checks + " checks, " + wrong + " wrong");
        if (wrong != 0) {
            System.exit(1);
        }
    }

    /** The answer of a call, or the class of the exception that it throws. */
    static Object answerOf(Call call) {
        try {
            return call.answer();
        } catch (RuntimeException e) {
            return e.getClass();
        }
    }

    /** Zeros of both signs are the same answer. */
    private static Object plain(Object answer) {
        if (answer instanceof Float && ((Float) answer) == 0.0f) {
            return 0.0f;
        }
        return answer == null ? "null" : answer;
    }

    private static int lineOfTest() {
        for (StackTraceElement frame : new Throwable().getStackTrace()) {
            boolean own = frame.getClassName().startsWith("Checks") || frame.getMethodName().startsWith("due");
            if (!own) {
                return frame.getLineNumber();
            }
        }
        return 0;
    }

    // ---- Ways to make a finder

    static void appendText(ReductionFinder x, String text) {
        for (int at = 0; at < text.length(); at += 4) {
            int packed = 0;
            for (int k = at; k < at + 4 && k < text.length(); k++) {
                packed = packed << 8 | text.charAt(k);
            }
            x.append(packed);
        }
    }

    static int loadText(ReductionFinder x, String text) {
        appendText(x, text);
        return x.load();
    }

    static ReductionFinder loop(String text) {
        ReductionFinder x = new ReductionFinder();
        loadText(x, text);
        return x;
    }

    static ReductionFinder loop(String text, int mode, int n) {
        ReductionFinder x = loop(text);
        x.setMode(mode);
        x.setCount(n);
        return x;
    }

    static void setElements(ReductionFinder x, int array, int... values) {
        for (int i = 0; i < values.length; i++) {
            x.setElement(array, i, values[i]);
        }
    }

    static String repeated(String part, int times) {
        StringBuilder text = new StringBuilder();
        for (int k = 0; k < times; k++) {
            text.append(part);
        }
        return text.toString();
    }

    // ---- Ways to look at a finder

    static int modeOf(ReductionFinder x) {
        int mode = x.setMode(0);
        x.setMode(mode);
        return mode;
    }

    static int countOf(ReductionFinder x) {
        int n = x.setCount(0);
        x.setCount(n);
        return n;
    }

    static int initialOf(ReductionFinder x, int variable) {
        int initial = x.setInitial(variable, 0);
        x.setInitial(variable, initial);
        return initial;
    }

    /** The nodes of an end expression, which takes the cursor. */
    static String nodesOf(ReductionFinder x, int variable) {
        x.open(variable);
        return restOfCursor(x);
    }

    static String restOfCursor(ReductionFinder x) {
        StringBuilder codes = new StringBuilder();
        for (int at = 0; at < 201 && x.hasNext(); at++) {
            codes.append(at == 0 ? "" : " ").append(x.next());
        }
        return codes.toString();
    }

    static Object restore(ReductionFinder x) {
        x.restore();
        return "restored";
    }

    /**
     * Checks that a call is refused and changes nothing: of two finders made in the same way, one that was asked for
     * it and one that was not, everything that can be seen is the same.
     */
    static void dueRefused(Call maker, Deed deed, Class<?> want) {
        ReductionFinder asked = (ReductionFinder) maker.answer();
        ReductionFinder other = (ReductionFinder) maker.answer();
        dueThrow(() -> deed.on(asked), want);
        dueSameState(asked, other);
    }

    /** Uses both finders up. */
    static void dueSameState(ReductionFinder one, ReductionFinder other) {
        String[] got = portrait(one).split("\n");
        String[] want = portrait(other).split("\n");
        due(got.length, want.length);
        for (int line = 0; line < got.length && line < want.length; line++) {
            due(got[line], want[line]);
        }
    }

    /** All that a finder answers, a line each: as it is, its cursor, its buffer, and its snapshot. Uses it up. */
    private static String portrait(ReductionFinder x) {
        StringBuilder lines = new StringBuilder(view(x));
        add(lines, "cursor", () -> restOfCursor(x));
        add(lines, "buffer", () -> x.append(0));
        add(lines, "load", x::load);
        add(lines, "fault of the buffer", x::faultPosition);
        for (int variable = 0; variable < 8; variable++) {
            int v = variable;
            add(lines, "loaded end " + v, () -> nodesOf(x, v));
        }
        add(lines, "restore", () -> restore(x));
        return lines.append(view(x)).toString();
    }

    private static String view(ReductionFinder x) {
        StringBuilder lines = new StringBuilder();
        add(lines, "fault", x::faultPosition);
        add(lines, "statements", x::statements);
        add(lines, "mode", () -> modeOf(x));
        add(lines, "count", () -> countOf(x));
        for (int array = 0; array < 3; array++) {
            for (int index = 0; index < 16; index++) {
                int a = array;
                int i = index;
                add(lines, "element " + a + " " + i, () -> x.element(a, i));
            }
        }
        for (int variable = 0; variable < 8; variable++) {
            int v = variable;
            add(lines, "initial " + v, () -> initialOf(x, v));
            add(lines, "kind " + v, () -> x.kind(v));
            add(lines, "depends " + v, () -> x.depends(v));
            add(lines, "nodes " + v, () -> x.nodes(v));
            add(lines, "height " + v, () -> x.height(v));
            add(lines, "result " + v, () -> x.result(v));
            add(lines, "float result " + v, () -> x.resultFloat(v));
            add(lines, "difference " + v, () -> x.difference(v));
        }
        add(lines, "parallel", x::isParallel);
        add(lines, "cost", () -> x.cost(0, 0));
        add(lines, "cheapest", x::cheapest);
        return lines.toString();
    }

    private static void add(StringBuilder lines, String name, Call call) {
        lines.append(name).append(": ").append(answerOf(call)).append('\n');
    }
}
