/**
 * The boundaries that the document names for executions: "Orders of execution" and "Results" of the description, and
 * the promises 23 to 26.
 */
public final class OrderEdgeTests extends Checks {
    // Each term is rounded, and each sum and product of them, so that floats tell the orders apart.
    private static final String ROUNDED = "s=s+a[i]*b[i]*b[i]*b[i]*b[i];t=t*b[i];u=min(u,a[i]);v=max(a[i],v);w=a[i]-b[i];";

    public static void main(String[] args) {
        iterationsFromZero();
        statementsInTheirOrder();
        noIterations();
        oneIteration();
        lanesByRemainder();
        lanesWithoutIterations();
        blocksRoundedUp();
        blocksWithoutIterations();
        fromLeftToRight();
        treeOfOneElement();
        treeWithoutPartner();
        treeOfSixteen();
        neutralInts();
        neutralFloats();
        otherVariablesInParts();
        otherVariablesAfterwards();
        othersOnlyIfParallel();
        orderOutOfRange();
        widthOutOfRange();
        widthIgnored();
        executeConditionsInOrder();
        countOfChangedVariables();
        countOfChangedFloats();
        resultsKept();
        resultsKeptAfterRefusedCalls();
        resultsDropped();
        resultsWithTheirMode();
        resultVariables();
        resultConditionsInOrder();
        differenceOfNow();
        differenceAsDouble();
        differenceOfFloats();
        differenceOfZeros();
        differenceLeavesResults();
        differenceRefused();
        differenceOfBits();
        callsUpTo512();
        tellAll("OrderEdgeTests");
    }

    // ---- Order 0

    private static void iterationsFromZero() {
        sentence("n iterations, 0 to 16, numbered by i from 0");
        ReductionFinder x = loop("s=s*2+a[i];");
        setElements(x, 0, 1, 0, 1, 1, 0, 1, 0, 0, 1, 1, 0, 1, 0, 1, 1, 1);
        String bits = "1011010011010111";
        for (int n = 0; n <= 16; n++) {
            x.setCount(n);
            x.execute(0, 0);
            due(x.result(0), n == 0 ? 0 : Integer.parseInt(bits.substring(0, n), 2));
        }
    }

    private static void statementsInTheirOrder() {
        sentence("In each iteration, the statements are executed in their order");
        ReductionFinder x = loop("s=t;t=s+1;u=t;t=t*2;v=s;", 0, 3);
        x.setInitial(1, 5);
        // t: 5, 12, 26, 54
        x.execute(0, 0);
        due(x.result(0), 26);
        due(x.result(1), 54);
        due(x.result(2), 27);
        due(x.result(3), 26);
        ReductionFinder full = loop("s=s+1;t=s;u=t+1;v=u*u;w=v-s;x=w;y=x+v;z=y-z;", 0, 2);
        full.execute(0, 0);
        int[] want = {2, 2, 3, 9, 7, 7, 16, 16 - (4 + 3)};
        for (int variable = 0; variable < 8; variable++) {
            due(full.result(variable), want[variable]);
        }
    }

    private static void noIterations() {
        sentence("If n is 0, all variables have their initial values in all orders");
        String[] texts = {"", "s=1;t=t+1;u=u*2;v=min(v,0-99);w=max(w,99);x=a[i];"};
        for (String text : texts) {
            ReductionFinder x = text.isEmpty() ? new ReductionFinder() : loop(text);
            for (int variable = 0; variable < 8; variable++) {
                x.setInitial(variable, variable % 2 == 0 ? 999 - variable : variable - 999);
            }
            for (int order = 0; order <= 3; order++) {
                for (int width = 1; width <= 8; width += 7) {
                    dueInitialValues(x, order, width);
                }
            }
        }
        ReductionFinder bits = loop("s=s&1;t=t|1;u=u^1;");
        bits.setInitial(0, 6);
        bits.setInitial(1, -6);
        for (int order = 0; order <= 3; order++) {
            due(bits.execute(order, 4), 0);
            due(bits.result(0), 6);
            due(bits.result(1), -6);
            due(bits.result(2), 0);
        }
    }

    private static void dueInitialValues(ReductionFinder x, int order, int width) {
        for (int mode = 0; mode <= 1; mode++) {
            x.setMode(mode);
            due(x.execute(order, width), 0);
            for (int variable = 0; variable < 8; variable++) {
                int initial = variable % 2 == 0 ? 999 - variable : variable - 999;
                if (mode == 0) {
                    due(x.result(variable), initial);
                } else {
                    due(x.resultFloat(variable), (float) initial);
                }
                due(x.difference(variable), 0.0);
            }
        }
    }

    private static void oneIteration() {
        sentence("one iteration is executed once in all orders, whatever the width is");
        ReductionFinder x = loop("s=s+a[i];t=t*3;u=a[i];v=v-1;", 0, 1);
        x.setInitial(0, 100);
        x.setInitial(1, 7);
        x.setElement(0, 0, 5);
        x.setElement(0, 1, 50);
        for (int mode = 0; mode <= 1; mode++) {
            x.setMode(mode);
            for (int order = 0; order <= 3; order++) {
                for (int width = 1; width <= 8; width++) {
                    due(x.execute(order, width), 4);
                    int[] want = {105, 21, 5, -1};
                    for (int variable = 0; variable < 4; variable++) {
                        double got = mode == 0 ? x.result(variable) : x.resultFloat(variable);
                        due(got, (double) want[variable]);
                    }
                }
            }
        }
    }

    // ---- Orders 1 to 3: which iterations belong to which part

    private static ReductionFinder rounded(int n) {
        ReductionFinder x = loop(ROUNDED, 1, n);
        x.fill(0, 4711);
        x.fill(1, 815);
        x.setInitial(0, 777);
        x.setInitial(1, -3);
        x.setInitial(2, 999);
        x.setInitial(3, -999);
        return x;
    }

    private static float termOf(ReductionFinder x, int i) {
        float b = x.element(1, i);
        return x.element(0, i) * b * b * b * b;
    }

    private static float sumOf(ReductionFinder x, int[] part) {
        float sum = 0.0f;
        for (int i : part) {
            sum = sum + termOf(x, i);
        }
        return sum;
    }

    private static float productOf(ReductionFinder x, int[] part) {
        float product = 1.0f;
        for (int i : part) {
            product = cut(product * x.element(1, i));
        }
        return product;
    }

    private static float cut(float value) {
        return value > 1.0e30f ? 1.0e30f : value < -1.0e30f ? -1.0e30f : value;
    }

    /** The parts are given by hand, as the iterations of each of them. */
    private static void dueParts(int n, int order, int[]... parts) {
        ReductionFinder x = rounded(n);
        float sum = 777.0f;
        float product = -3.0f;
        float least = 999.0f;
        float greatest = -999.0f;
        for (int[] part : parts) {
            sum = sum + sumOf(x, part);
            product = cut(product * productOf(x, part));
            for (int i : part) {
                least = Math.min(least, x.element(0, i));
                greatest = Math.max(greatest, x.element(0, i));
            }
        }
        x.execute(order, parts.length);
        due(x.resultFloat(0), sum);
        due(x.resultFloat(1), product);
        due(x.resultFloat(2), least);
        due(x.resultFloat(3), greatest);
        due(x.resultFloat(4), (float) (x.element(0, n - 1) - x.element(1, n - 1)));
    }

    private static int[] part(int... iterations) {
        return iterations;
    }

    private static void lanesByRemainder() {
        sentence("the one with number k, from 0, consists of the iterations i with i % w = k");
        dueParts(16, 1, part(0, 1, 2, 3, 4, 5, 6, 7, 8, 9, 10, 11, 12, 13, 14, 15));
        dueParts(16, 1, part(0, 2, 4, 6, 8, 10, 12, 14), part(1, 3, 5, 7, 9, 11, 13, 15));
        dueParts(16, 1, part(0, 3, 6, 9, 12, 15), part(1, 4, 7, 10, 13), part(2, 5, 8, 11, 14));
        dueParts(16, 1, part(0, 5, 10, 15), part(1, 6, 11), part(2, 7, 12), part(3, 8, 13), part(4, 9, 14));
        dueParts(16, 1, part(0, 7, 14), part(1, 8, 15), part(2, 9), part(3, 10), part(4, 11), part(5, 12), part(6, 13));
        dueParts(16, 1, part(0, 8), part(1, 9), part(2, 10), part(3, 11), part(4, 12), part(5, 13), part(6, 14), part(7, 15));
        dueParts(9, 1, part(0, 8), part(1), part(2), part(3), part(4), part(5), part(6), part(7));
        dueParts(5, 1, part(0, 4), part(1), part(2), part(3));
    }

    private static void lanesWithoutIterations() {
        sentence("lanes: there are w partial executions, some of them without iterations");
        dueParts(1, 1, part(0), part());
        dueParts(3, 1, part(0), part(1), part(2), part());
        dueParts(7, 1, part(0), part(1), part(2), part(3), part(4), part(5), part(6), part());
        dueParts(1, 1, part(0), part(), part(), part(), part(), part(), part(), part());
        dueParts(8, 1, part(0), part(1), part(2), part(3), part(4), part(5), part(6), part(7));
    }

    private static void blocksRoundedUp() {
        sentence("with q being n / w, rounded up, .. the iterations from k * q to (k + 1) * q - 1 that exist");
        dueParts(16, 2, part(0, 1, 2, 3, 4, 5, 6, 7, 8, 9, 10, 11, 12, 13, 14, 15));
        dueParts(16, 2, part(0, 1, 2, 3, 4, 5, 6, 7), part(8, 9, 10, 11, 12, 13, 14, 15));
        dueParts(16, 2, part(0, 1, 2, 3, 4, 5), part(6, 7, 8, 9, 10, 11), part(12, 13, 14, 15));
        dueParts(16, 2, part(0, 1, 2, 3), part(4, 5, 6, 7), part(8, 9, 10, 11), part(12, 13, 14, 15));
        dueParts(16, 2, part(0, 1, 2), part(3, 4, 5), part(6, 7, 8), part(9, 10, 11), part(12, 13, 14), part(15));
        dueParts(16, 2, part(0, 1), part(2, 3), part(4, 5), part(6, 7), part(8, 9), part(10, 11), part(12, 13), part(14, 15));
        dueParts(15, 2, part(0, 1, 2, 3), part(4, 5, 6, 7), part(8, 9, 10, 11), part(12, 13, 14));
        dueParts(7, 2, part(0, 1, 2, 3), part(4, 5, 6));
        dueParts(8, 2, part(0), part(1), part(2), part(3), part(4), part(5), part(6), part(7));
    }

    private static void blocksWithoutIterations() {
        sentence("blocks: there are w partial executions, some of them without iterations");
        dueParts(5, 2, part(0, 1), part(2, 3), part(4), part());
        dueParts(9, 2, part(0, 1), part(2, 3), part(4, 5), part(6, 7), part(8), part(), part(), part());
        dueParts(10, 2, part(0, 1), part(2, 3), part(4, 5), part(6, 7), part(8, 9), part(), part(), part());
        dueParts(16, 2, part(0, 1, 2), part(3, 4, 5), part(6, 7, 8), part(9, 10, 11), part(12, 13, 14), part(15), part());
        dueParts(1, 2, part(0), part(), part(), part(), part(), part(), part(), part());
        dueParts(6, 2, part(0, 1), part(2, 3), part(4, 5), part());
    }

    private static void fromLeftToRight() {
        sentence("the value of a reduction is initial value o result 0 o result 1 and so on, from left to right");
        // 2 to the 24th swallows single ones behind it, but not two of them that are together before it comes; with
        // 2 more, the next 1 is rounded up.
        String text = "s=s+if(a[i],64*64*64*64,b[i]);";
        int[][] places = {{1, 0, 0}, {0, 1, 0}, {0, 0, 1}};
        float[] want = {16777216.0f, 16777220.0f, 16777220.0f};
        for (int order = 1; order <= 2; order++) {
            for (int k = 0; k < 3; k++) {
                ReductionFinder x = loop(text, 1, 3);
                setElements(x, 0, places[k]);
                setElements(x, 1, 1, 1, 1);
                x.setInitial(0, 1);
                x.execute(order, 3);
                due(x.resultFloat(0), want[k]);
            }
        }
    }

    private static void treeOfOneElement() {
        sentence("as long as the row has more than one element: a row of one is left as it is");
        ReductionFinder x = loop("s=s+a[i];t=t*a[i];", 1, 1);
        x.setElement(0, 0, 3);
        x.setInitial(0, 10);
        x.setInitial(1, 10);
        due(x.execute(3, 0), 2);
        due(x.resultFloat(0), 13.0f);
        due(x.resultFloat(1), 30.0f);
    }

    private static float[] terms(ReductionFinder x, int n) {
        float[] terms = new float[n];
        for (int i = 0; i < n; i++) {
            terms[i] = termOf(x, i);
        }
        return terms;
    }

    private static void treeWithoutPartner() {
        sentence("a last element without a partner is taken over");
        ReductionFinder x = rounded(16);
        float[] t = terms(x, 16);
        float[] want = {
            0.0f,
            t[0],
            t[0] + t[1],
            (t[0] + t[1]) + t[2],
            (t[0] + t[1]) + (t[2] + t[3]),
            ((t[0] + t[1]) + (t[2] + t[3])) + t[4],
            ((t[0] + t[1]) + (t[2] + t[3])) + (t[4] + t[5]),
            ((t[0] + t[1]) + (t[2] + t[3])) + ((t[4] + t[5]) + t[6]),
            ((t[0] + t[1]) + (t[2] + t[3])) + ((t[4] + t[5]) + (t[6] + t[7])),
        };
        for (int n = 0; n <= 8; n++) {
            x.setCount(n);
            x.execute(3, 0);
            due(x.resultFloat(0), 777.0f + want[n]);
        }
        float eight = want[8];
        x.setCount(9);
        x.execute(3, 0);
        due(x.resultFloat(0), 777.0f + (eight + t[8]));
        x.setCount(11);
        x.execute(3, 0);
        due(x.resultFloat(0), 777.0f + (eight + ((t[8] + t[9]) + t[10])));
        x.setCount(13);
        x.execute(3, 0);
        due(x.resultFloat(0), 777.0f + (eight + (((t[8] + t[9]) + (t[10] + t[11])) + t[12])));
    }

    private static void treeOfSixteen() {
        sentence("In order 3 each iteration is a partial execution: at most 16 of them");
        ReductionFinder x = rounded(16);
        float[] t = terms(x, 16);
        float left = ((t[0] + t[1]) + (t[2] + t[3])) + ((t[4] + t[5]) + (t[6] + t[7]));
        float right = ((t[8] + t[9]) + (t[10] + t[11])) + ((t[12] + t[13]) + (t[14] + t[15]));
        x.execute(3, 0);
        due(x.resultFloat(0), 777.0f + (left + right));
        x.setCount(15);
        float shorter = ((t[8] + t[9]) + (t[10] + t[11])) + ((t[12] + t[13]) + t[14]);
        x.execute(3, 0);
        due(x.resultFloat(0), 777.0f + (left + shorter));
        ReductionFinder whole = loop("s=s+1;t=t*(0-1);u=max(u,a[i]);", 0, 16);
        whole.setElement(0, 15, 99);
        whole.setInitial(1, 5);
        whole.execute(3, 0);
        due(whole.result(0), 16);
        due(whole.result(1), 5);
        due(whole.result(2), 99);
    }

    // ---- Neutral elements

    private static void neutralInts() {
        sentence("The neutral elements are 0 for +, | and ^, 1 for *, -1 for &, and for min and max ..: in mode 0");
        String half = "64*64*64*64*64";
        String[] steps = {"s+t", "s*t", "s&t", "s|t", "s^t", "min(s,t)", "max(s,t)"};
        for (int operator = 0; operator < 7; operator++) {
            // The terms are -1, 0, 1, the least and the greatest int; the initial values go to both ends.
            for (String term : new String[] {"0-1", "0", "1", half + "*2", half + "*2-1"}) {
                ReductionFinder x = loop("t=" + term + ";s=" + steps[operator] + ";");
                for (int initial : new int[] {-999, -1, 0, 1, 999}) {
                    x.setInitial(0, initial);
                    for (int n = 1; n <= 3; n++) {
                        x.setCount(n);
                        dueAllOrdersLikeFirst(x);
                    }
                }
            }
        }
    }

    private static void dueAllOrdersLikeFirst(ReductionFinder x) {
        x.execute(0, 0);
        int want = x.result(0);
        int[][] others = {{1, 1}, {1, 2}, {1, 8}, {2, 1}, {2, 2}, {2, 8}, {3, 0}};
        for (int[] other : others) {
            x.execute(other[0], other[1]);
            due(x.result(0), want);
        }
    }

    private static void neutralFloats() {
        sentence("The neutral elements .. for min and max .. 1.0e30f and -1.0e30f in mode 1");
        String limit = "t=64*64*64*64;t=t*t*t*64;";
        String[] steps = {"s+t", "s*t", "min(s,t)", "max(s,t)", "min(s,0-t)", "max(s,0-t)"};
        float top = 0x1p78f;
        for (int initial : new int[] {-999, 0, 999}) {
            float[] want = {top, initial * top, initial, top, -top, initial};
            for (int step = 0; step < steps.length; step++) {
                ReductionFinder x = loop(limit + "s=" + steps[step] + ";", 1, 1);
                x.setInitial(0, initial);
                int[][] orders = {{0, 0}, {1, 1}, {1, 8}, {2, 1}, {2, 8}, {3, 0}};
                for (int[] order : orders) {
                    x.execute(order[0], order[1]);
                    due(x.resultFloat(0), want[step]);
                }
            }
        }
    }

    // ---- Other variables

    private static void otherVariablesInParts() {
        sentence("some iterations are executed .., with .. the initial values of all other variables");
        // u is not assigned, t is private; w is private and begins anew in each part, too.
        ReductionFinder x = loop("t=a[i]*u;w=t+1;s=s+w;", 0, 4);
        setElements(x, 0, 1, 2, 3, 4);
        x.setInitial(2, 7);
        x.setInitial(1, 500);
        x.setInitial(4, 600);
        for (int order = 0; order <= 3; order++) {
            for (int width = 1; width <= 8; width++) {
                due(x.execute(order, width), 3);
                due(x.result(0), 74);
                due(x.result(1), 28);
                due(x.result(2), 7);
                due(x.result(4), 29);
            }
        }
    }

    private static void otherVariablesAfterwards() {
        sentence("the other variables have the values that they have after the last iteration if it is executed alone");
        ReductionFinder x = loop("s=a[i]+z;t=t+1;u=s*2;");
        setElements(x, 0, 1, 2, 3, 4, 5, 6, 7, 8, 9, 10, 11, 12, 13, 14, 15, 16);
        x.setInitial(7, 100);
        x.setInitial(0, -50);
        for (int n = 1; n <= 16; n++) {
            x.setCount(n);
            for (int order = 0; order <= 3; order++) {
                due(x.execute(order, 3), 3);
                due(x.result(0), 100 + n);
                due(x.result(1), n);
                due(x.result(2), 200 + 2 * n);
                due(x.result(7), 100);
            }
        }
    }

    // ---- Promise 23

    private static void othersOnlyIfParallel() {
        sentence("if the order is not 0 and the loop is not parallel");
        for (String text : new String[] {"s=s+1;t=s;", "s=s*s;", "s=1;z=1-z;"}) {
            for (int n = 0; n <= 1; n++) {
                for (int mode = 0; mode <= 1; mode++) {
                    ReductionFinder x = loop(text, mode, n);
                    dueThrow(() -> x.execute(1, 1), STATE);
                    dueThrow(() -> x.execute(1, 8), STATE);
                    dueThrow(() -> x.execute(2, 1), STATE);
                    dueThrow(() -> x.execute(2, 8), STATE);
                    dueThrow(() -> x.execute(3, 0), STATE);
                    due(answerOf(() -> x.execute(0, 0)) instanceof Integer, true);
                }
            }
        }
    }

    private static void orderOutOfRange() {
        sentence("execute: if the order .. is out of range");
        ReductionFinder x = loop("s=s+1;", 0, 3);
        for (int order : new int[] {-1, 4, Integer.MIN_VALUE, Integer.MAX_VALUE}) {
            dueThrow(() -> x.execute(order, 1), ARGUMENT);
            dueThrow(() -> x.execute(order, 0), ARGUMENT);
        }
        dueThrow(() -> x.result(0), STATE);
        for (int order = 0; order <= 3; order++) {
            due(x.execute(order, 1), 1);
        }
    }

    private static void widthOutOfRange() {
        sentence("execute: if .. a width that is not ignored, is out of range");
        ReductionFinder x = loop("s=s+1;", 0, 3);
        for (int order = 1; order <= 2; order++) {
            int given = order;
            for (int width : new int[] {0, 9, -1, Integer.MIN_VALUE, Integer.MAX_VALUE}) {
                dueThrow(() -> x.execute(given, width), ARGUMENT);
            }
            for (int width = 1; width <= 8; width++) {
                due(x.execute(order, width), 1);
                due(x.result(0), 3);
            }
        }
    }

    private static void widthIgnored() {
        sentence("the width .. is ignored for the orders 0 and 3");
        ReductionFinder x = rounded(11);
        for (int order = 0; order <= 3; order += 3) {
            x.execute(order, 1);
            float want = x.resultFloat(0);
            for (int width : new int[] {0, 2, 8, 9, -1, Integer.MIN_VALUE, Integer.MAX_VALUE}) {
                due(x.execute(order, width), 5);
                due(x.resultFloat(0), want);
            }
        }
    }

    private static void executeConditionsInOrder() {
        sentence("execute: the condition that is listed first determines the exception");
        // Not parallel, with an operator of mode 0.
        ReductionFinder x = loop("s=s|1;t=s;", 1, 2);
        dueThrow(() -> x.execute(4, 9), ARGUMENT);
        dueThrow(() -> x.execute(-1, 1), ARGUMENT);
        dueThrow(() -> x.execute(1, 0), ARGUMENT);
        dueThrow(() -> x.execute(2, 9), ARGUMENT);
        dueThrow(() -> x.execute(0, 0), UNSUPPORTED);
        dueThrow(() -> x.execute(1, 1), UNSUPPORTED);
        dueThrow(() -> x.execute(2, 8), UNSUPPORTED);
        dueThrow(() -> x.execute(3, 0), UNSUPPORTED);
        x.setMode(0);
        dueThrow(() -> x.execute(1, 0), ARGUMENT);
        dueThrow(() -> x.execute(2, 9), ARGUMENT);
        dueThrow(() -> x.execute(1, 1), STATE);
        dueThrow(() -> x.execute(3, 0), STATE);
        due(x.execute(0, 0), 2);
    }

    private static void countOfChangedVariables() {
        sentence("Returns the number of variables whose values differ from their initial values");
        ReductionFinder x = loop("s=s+1;t=t+1;u=u+1;v=v+1;w=w+1;x=x+1;y=y+1;z=z+1;");
        due(x.execute(0, 0), 0);
        for (int n = 1; n <= 16; n += 5) {
            x.setCount(n);
            for (int order = 0; order <= 3; order++) {
                due(x.execute(order, 2), 8);
            }
        }
        // A value that comes back to the initial one does not differ, though it was assigned.
        ReductionFinder y = loop("s=s+a[i];t=5;u=u*1;z=z-1;", 0, 2);
        setElements(y, 0, 4, -4);
        y.setInitial(1, 5);
        for (int order = 0; order <= 3; order++) {
            due(y.execute(order, 2), 1);
        }
        y.setInitial(1, -5);
        y.setElement(0, 1, 4);
        for (int order = 0; order <= 3; order++) {
            due(y.execute(order, 2), 3);
        }
        due(new ReductionFinder().execute(0, 0), 0);
    }

    private static void countOfChangedFloats() {
        sentence("Returns the number of variables whose values differ: in mode 1");
        ReductionFinder x = loop("s=s+1;t=0*(0-1);u=u+64*64*64*64-64*64*64*64;v=99;", 1, 1);
        x.setInitial(2, 1);
        x.setInitial(3, 99);
        // s becomes 1, t a zero, u 0 because the 1 is lost, v what it was.
        due(x.execute(0, 0), 2);
        due(x.resultFloat(2), 0.0f);
        x.setInitial(2, 2);
        due(x.execute(0, 0), 1);
        due(x.resultFloat(2), 2.0f);
    }

    // ---- Results, promises 24 and 25

    private static void resultsKept() {
        sentence("The results of the latest execution, with its mode, are kept until the next successful call of execute");
        ReductionFinder x = loop("s=s+a[i];", 0, 2);
        setElements(x, 0, 3, 4);
        x.execute(0, 0);
        x.setElement(0, 0, 50);
        x.fill(1, 5);
        x.setInitial(0, 99);
        x.setInitial(5, 98);
        x.setCount(0);
        x.setMode(1);
        x.save();
        appendText(x, "t=1;");
        x.open(0);
        due(x.result(0), 7);
        due(x.result(5), 0);
        x.setMode(0);
        due(x.execute(3, 0), 0);
        due(x.result(0), 99);
        due(x.result(5), 98);
    }

    private static void resultsKeptAfterRefusedCalls() {
        sentence("until the next successful call of execute: one that throws leaves the results");
        ReductionFinder x = loop("s=s|a[i];t=s;", 0, 2);
        setElements(x, 0, 3, 4);
        x.execute(0, 0);
        x.setCount(1);
        dueThrow(() -> x.execute(4, 1), ARGUMENT);
        dueThrow(() -> x.execute(1, 1), STATE);
        dueThrow(() -> x.execute(3, 1), STATE);
        due(x.result(0), 7);
        x.setMode(1);
        dueThrow(() -> x.execute(0, 0), UNSUPPORTED);
        due(x.result(0), 7);
        dueThrow(x::load, ARGUMENT);
        due(x.result(0), 7);
        dueThrow(() -> loadText(x, repeated("s=1;", 9)), STATE);
        due(x.result(0), 7);
        dueThrow(() -> restore(x), STATE);
        due(x.result(0), 7);
        due(x.result(1), 7);
    }

    private static void resultsDropped() {
        sentence("Successful calls of load and restore drop them");
        for (int mode = 0; mode <= 1; mode++) {
            ReductionFinder x = loop("s=s+1;", mode, 2);
            x.save();
            x.execute(0, 0);
            x.restore();
            dueNoResults(x);
            x.execute(0, 0);
            loadText(x, "s=s+1;");
            dueNoResults(x);
            x.execute(0, 0);
            due(x.difference(0), 0.0);
        }
    }

    private static void dueNoResults(ReductionFinder x) {
        for (int variable = 0; variable < 8; variable++) {
            int v = variable;
            dueThrow(() -> x.result(v), STATE);
            dueThrow(() -> x.resultFloat(v), STATE);
            dueThrow(() -> x.difference(v), STATE);
        }
    }

    private static void resultsWithTheirMode() {
        sentence("if no results are kept, or they are floats; .. or they are ints");
        ReductionFinder x = loop("s=s+1;", 0, 2);
        dueNoResults(x);
        x.execute(0, 0);
        due(x.result(0), 2);
        dueThrow(() -> x.resultFloat(0), STATE);
        x.setMode(1);
        due(x.result(0), 2);
        dueThrow(() -> x.resultFloat(0), STATE);
        x.execute(0, 0);
        due(x.resultFloat(0), 2.0f);
        dueThrow(() -> x.result(0), STATE);
        x.setMode(0);
        due(x.resultFloat(0), 2.0f);
        dueThrow(() -> x.result(0), STATE);
        x.execute(0, 0);
        due(x.result(0), 2);
        dueThrow(() -> x.resultFloat(0), STATE);
    }

    private static void resultVariables() {
        sentence("result, resultFloat and difference: if there is no such variable");
        ReductionFinder x = loop("s=7;z=9;", 0, 1);
        x.execute(0, 0);
        ReductionFinder y = loop("s=7;z=9;", 1, 1);
        y.execute(0, 0);
        for (int variable : NO_VARIABLES) {
            dueThrow(() -> x.result(variable), INDEX);
            dueThrow(() -> y.resultFloat(variable), INDEX);
            dueThrow(() -> x.difference(variable), INDEX);
            dueThrow(() -> y.difference(variable), INDEX);
        }
        due(x.result(0), 7);
        due(x.result(7), 9);
        due(y.resultFloat(0), 7.0f);
        due(y.resultFloat(7), 9.0f);
    }

    private static void resultConditionsInOrder() {
        sentence("result, resultFloat and difference: the condition that is listed first determines the exception");
        ReductionFinder x = loop("s=s^1;", 0, 1);
        for (int variable : NO_VARIABLES) {
            dueThrow(() -> x.result(variable), INDEX);
            dueThrow(() -> x.resultFloat(variable), INDEX);
            dueThrow(() -> x.difference(variable), INDEX);
        }
        x.execute(0, 0);
        x.setMode(1);
        for (int variable : NO_VARIABLES) {
            dueThrow(() -> x.resultFloat(variable), INDEX);
            dueThrow(() -> x.difference(variable), INDEX);
        }
        dueThrow(() -> x.difference(0), STATE);
    }

    // ---- Promise 26

    private static void differenceOfNow() {
        sentence("The mode and the data of now are used for the sequential execution");
        ReductionFinder x = loop("s=s+a[i];t=b[i];", 0, 3);
        setElements(x, 0, 1, 2, 3, 4);
        setElements(x, 1, 10, 20, 30, 40);
        x.execute(3, 0);
        due(x.difference(0), 0.0);
        due(x.difference(1), 0.0);
        x.setCount(0);
        due(x.difference(0), 6.0);
        due(x.difference(1), 30.0);
        x.setCount(4);
        due(x.difference(0), 4.0);
        due(x.difference(1), 10.0);
        x.setInitial(0, -999);
        due(x.difference(0), 995.0);
        x.setInitial(7, 999);
        due(x.difference(7), 999.0);
        x.setInitial(7, -999);
        due(x.difference(7), 999.0);
        x.fill(1, 1);
        due(x.difference(1), 124.0);
    }

    private static void differenceAsDouble() {
        sentence("Returns the absolute value of the difference of both values, each converted to a double");
        // s goes from 2147483647 to -2147483648 when the 1 comes to it.
        ReductionFinder x = loop("s=64*64*64*64*64*2-1+a[i];", 0, 1);
        x.execute(0, 0);
        due(x.result(0), Integer.MAX_VALUE);
        x.setElement(0, 0, 1);
        due(x.difference(0), 4294967295.0);
        x.execute(0, 0);
        due(x.result(0), Integer.MIN_VALUE);
        due(x.difference(0), 0.0);
        x.setElement(0, 0, 0);
        due(x.difference(0), 4294967295.0);
        x.setElement(0, 0, 2);
        due(x.difference(0), 1.0);
    }

    private static void differenceOfFloats() {
        sentence("difference: of floats, up to both limits");
        String limit = "t=64*64*64*64;t=t*t*t*t*99;";
        ReductionFinder x = loop(limit + "s=if(a[i],t,0-t);", 1, 1);
        x.execute(0, 0);
        due(x.resultFloat(0), -1.0e30f);
        due(x.difference(0), 0.0);
        x.setElement(0, 0, 1);
        due(x.difference(0), 2.0 * (double) 1.0e30f);
        // The double is exact where a float would be rounded: 16777216 - (-1).
        ReductionFinder y = loop("s=if(a[i],64*64*64*64,0-1);", 1, 1);
        y.execute(0, 0);
        y.setElement(0, 0, 1);
        due(y.difference(0), 16777217.0);
        y.execute(0, 0);
        y.setElement(0, 0, 0);
        due(y.difference(0), 16777217.0);
        // 2 to the 24th loses three ones that come one by one, but not two that a tree has put together.
        ReductionFinder z = loop("s=s+if(a[i],64*64*64*64,b[i]);", 1, 4);
        setElements(z, 0, 1, 0, 0, 0);
        setElements(z, 1, 0, 1, 1, 1);
        z.execute(0, 0);
        due(z.resultFloat(0), 16777216.0f);
        due(z.difference(0), 0.0);
        z.execute(3, 0);
        due(z.resultFloat(0), 16777218.0f);
        due(z.difference(0), 2.0);
    }

    private static void differenceOfZeros() {
        sentence("the absolute value of the difference of both values: of zeros of both signs, too");
        ReductionFinder x = loop("s=0*a[i];", 1, 1);
        for (int first = -1; first <= 1; first++) {
            for (int second = -1; second <= 1; second++) {
                x.setElement(0, 0, first);
                x.execute(0, 0);
                x.setElement(0, 0, second);
                due(x.difference(0), 0.0);
            }
        }
    }

    private static void differenceLeavesResults() {
        sentence("difference: the results of the latest execution stay");
        ReductionFinder x = loop("s=s+a[i];", 0, 2);
        setElements(x, 0, 5, 6);
        x.execute(1, 2);
        x.setElement(0, 0, 90);
        for (int times = 0; times < 3; times++) {
            due(x.difference(0), 85.0);
            due(x.result(0), 11);
        }
        ReductionFinder y = loop("s=s*s+a[i];t=s;", 1, 2);
        setElements(y, 0, 5, 6);
        y.execute(0, 0);
        y.setCount(1);
        for (int times = 0; times < 3; times++) {
            due(y.difference(0), 26.0);
            due(y.resultFloat(0), 31.0f);
        }
    }

    private static void differenceRefused() {
        sentence("if no results are kept, or they were made in another mode");
        ReductionFinder x = loop("s=s+1;", 0, 2);
        dueThrow(() -> x.difference(0), STATE);
        x.execute(0, 0);
        x.setMode(1);
        dueThrow(() -> x.difference(0), STATE);
        x.setMode(0);
        due(x.difference(0), 0.0);
        x.setMode(1);
        x.execute(0, 0);
        due(x.difference(0), 0.0);
        x.setMode(0);
        dueThrow(() -> x.difference(0), STATE);
    }

    private static void differenceOfBits() {
        sentence("difference: if the mode is 1 and a statement contains &, | or ^, no results of mode 1 are kept either");
        ReductionFinder x = loop("s=s|a[i];", 0, 2);
        x.execute(2, 2);
        x.setElement(0, 0, 8);
        due(x.difference(0), 8.0);
        x.setMode(1);
        dueThrow(() -> x.difference(0), STATE);
        dueThrow(() -> x.execute(0, 0), UNSUPPORTED);
        dueThrow(() -> x.difference(0), STATE);
        loadText(x, "s=s+1;");
        x.execute(0, 0);
        due(x.difference(0), 0.0);
        loadText(x, "s=s|1;");
        dueThrow(() -> x.difference(0), STATE);
    }

    private static void callsUpTo512() {
        sentence("An object is used for at most 512 calls after it has been made");
        // Five calls of append, and then one each of load, setMode, setCount and setElement.
        ReductionFinder x = loop("s=s+a[i]+b[i]*c[i];", 0, 16);
        x.setElement(0, 15, 7);
        for (int call = 10; call <= 512; call += 2) {
            due(x.execute(call / 2 % 4, 8), 1);
            if (call < 512) {
                due(x.result(0), 7);
            }
        }
    }
}
