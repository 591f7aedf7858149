/**
 * "A call that throws an exception leaves the state unchanged, unless stated otherwise. If several conditions of a
 * method are fulfilled, the one that is listed first determines the exception." Each refused call of each promise is
 * tried on finders in several states, and all that can be seen afterwards is compared with an untouched one.
 */
public final class RefusedTests extends Checks {
    private static final int[] NO_ORDERS = {-1, 4, Integer.MIN_VALUE, Integer.MAX_VALUE};
    private static final int[] NO_WIDTHS = {0, 9, Integer.MIN_VALUE, Integer.MAX_VALUE};
    private static final String TOO_MANY = repeated("s=1;", 9);
    private static final String TOO_GREAT = repeated("s=s+s;", 7);

    private static final Call[] MAKERS = {
        ReductionFinder::new, RefusedTests::ints, RefusedTests::floats, RefusedTests::stuck};
    private static final Call[] MAKERS_WITHOUT_BUFFER = {
        ReductionFinder::new, RefusedTests::intsOnly, RefusedTests::floatsOnly, RefusedTests::stuckOnly};

    public static void main(String[] args) {
        for (Call maker : MAKERS) {
            append(maker);
            data(maker);
            variables(maker);
            orders(maker);
        }
        for (Call maker : MAKERS_WITHOUT_BUFFER) {
            loadKeepsTheRest(maker);
        }
        fullBuffer();
        noSnapshot();
        noCursor();
        endOfCursor();
        noResults();
        resultsOfTheOtherMode();
        noChains();
        notParallel();
        operatorsOfMode0();
        tellAll("RefusedTests");
    }

    private static void setData(ReductionFinder x, int seed) {
        x.setCount(6 + seed);
        for (int array = 0; array < 3; array++) {
            x.fill(array, seed + array);
        }
        for (int variable = 0; variable < 8; variable++) {
            x.setInitial(variable, 7 * variable - 4 * seed);
        }
    }

    /** Parallel, with ints as results, a cursor in its midst and a snapshot of something else. */
    private static ReductionFinder intsOnly() {
        ReductionFinder x = loop("v=1;w=w*v;");
        setData(x, 2);
        x.save();
        loadText(x, "s=s+a[i];t=t&b[i];u=c[i]*2;v=max(v,1);");
        setData(x, 5);
        x.execute(2, 3);
        x.open(0);
        x.next();
        return x;
    }

    /** Parallel, with floats as results, a cursor at its end, a fault and no snapshot. */
    private static ReductionFinder floatsOnly() {
        ReductionFinder x = loop("s=s+a[i];t=t*b[i];u=if(c[i],u,u-1);");
        setData(x, 5);
        x.setMode(1);
        x.execute(3, 0);
        dueThrow(() -> loadText(x, "s=1"), ARGUMENT);
        x.open(1);
        restOfCursor(x);
        return x;
    }

    /** Not parallel, with an operator of mode 0 in mode 1, ints as results and its own state as a snapshot. */
    private static ReductionFinder stuckOnly() {
        ReductionFinder x = loop("s=s|a[i];t=s;u=u*u;");
        setData(x, 5);
        x.execute(0, 0);
        x.setMode(1);
        x.save();
        x.open(2);
        return x;
    }

    private static ReductionFinder withBuffer(ReductionFinder x, String text) {
        appendText(x, text);
        return x;
    }

    private static ReductionFinder ints() {
        return withBuffer(intsOnly(), "w=8;");
    }

    /** The buffer is full. */
    private static ReductionFinder floats() {
        return withBuffer(floatsOnly(), "s=" + repeated("((((t))))+", 9) + "(((t)));");
    }

    private static ReductionFinder stuck() {
        return withBuffer(stuckOnly(), "r");
    }

    private static void append(Call maker) {
        sentence("a refused append leaves the state unchanged");
        for (int bad : new int[] {1, 32, 127, 128, 255}) {
            for (int shift = 0; shift < 32; shift += 8) {
                int packed = bad << shift;
                dueRefused(maker, x -> x.append(packed), ARGUMENT);
            }
        }
        dueRefused(maker, x -> x.append(0x733d3120), ARGUMENT);
        dueRefused(maker, x -> x.append(0x203d313b), ARGUMENT);
    }

    /** The buffer and the fault position are what a refused load is said to change. */
    private static void loadKeepsTheRest(Call maker) {
        sentence("a refused load changes the buffer and the fault position only");
        String[] texts = {"", "s", "s=1;r", TOO_MANY, TOO_GREAT};
        Class<?>[] exceptions = {ARGUMENT, ARGUMENT, ARGUMENT, STATE, STATE};
        int[] faults = {0, 1, 4, -1, -1};
        for (int k = 0; k < texts.length; k++) {
            String text = texts[k];
            ReductionFinder asked = (ReductionFinder) maker.answer();
            ReductionFinder other = (ReductionFinder) maker.answer();
            dueThrow(() -> loadText(asked, text), exceptions[k]);
            due(asked.append(0), 0);
            due(asked.faultPosition(), faults[k]);
            // The same fault for both of them, so that the rest can be compared.
            dueThrow(() -> loadText(asked, "s=1"), ARGUMENT);
            dueThrow(() -> loadText(other, "s=1"), ARGUMENT);
            dueSameState(asked, other);
        }
    }

    private static void data(Call maker) {
        sentence("a refused call of setMode, setCount, setElement, fill, element or setInitial leaves the state unchanged");
        for (int value : new int[] {-1, 2, Integer.MIN_VALUE, Integer.MAX_VALUE}) {
            dueRefused(maker, x -> x.setMode(value), ARGUMENT);
        }
        for (int value : new int[] {-1, 17, Integer.MIN_VALUE, Integer.MAX_VALUE}) {
            dueRefused(maker, x -> x.setCount(value), ARGUMENT);
        }
        for (int value : new int[] {-100, 100, Integer.MIN_VALUE, Integer.MAX_VALUE}) {
            dueRefused(maker, x -> x.setElement(1, 1, value), ARGUMENT);
        }
        for (int value : new int[] {-1000, 1000, Integer.MIN_VALUE, Integer.MAX_VALUE}) {
            dueRefused(maker, x -> x.setInitial(3, value), ARGUMENT);
        }
        for (int array : NO_ARRAYS) {
            dueRefused(maker, x -> x.setElement(array, 1, 1), INDEX);
            dueRefused(maker, x -> x.setElement(array, 1, 100), INDEX);
            dueRefused(maker, x -> x.fill(array, 1), INDEX);
            dueRefused(maker, x -> x.element(array, 1), INDEX);
        }
        for (int index : NO_INDICES) {
            dueRefused(maker, x -> x.setElement(1, index, 1), INDEX);
            dueRefused(maker, x -> x.setElement(1, index, 100), INDEX);
            dueRefused(maker, x -> x.element(1, index), INDEX);
        }
    }

    private static void variables(Call maker) {
        sentence("a call for a variable that does not exist leaves the state unchanged");
        for (int variable : NO_VARIABLES) {
            Deed[] deeds = {
                x -> x.setInitial(variable, 1),
                x -> x.setInitial(variable, 1000),
                x -> x.kind(variable),
                x -> x.operator(variable),
                x -> x.terms(variable),
                x -> x.depends(variable),
                x -> x.nodes(variable),
                x -> x.height(variable),
                x -> x.open(variable),
                x -> x.isExact(variable),
                x -> x.result(variable),
                x -> x.resultFloat(variable),
                x -> x.difference(variable),
            };
            for (Deed deed : deeds) {
                dueRefused(maker, deed, INDEX);
            }
        }
    }

    private static void orders(Call maker) {
        sentence("a call of execute or cost with a wrong order or width leaves the state unchanged");
        for (int order : NO_ORDERS) {
            dueRefused(maker, x -> x.execute(order, 2), ARGUMENT);
            dueRefused(maker, x -> x.cost(order, 2), ARGUMENT);
        }
        for (int width : NO_WIDTHS) {
            for (int order = 1; order <= 2; order++) {
                int given = order;
                dueRefused(maker, x -> x.execute(given, width), ARGUMENT);
                dueRefused(maker, x -> x.cost(given, width), ARGUMENT);
            }
        }
    }

    private static void fullBuffer() {
        sentence("append: if there would be more than 100 characters, the state is unchanged");
        for (int packed : new int[] {0x73, 0x73000000, 0x7373, 0x73737373}) {
            dueRefused(RefusedTests::floats, x -> x.append(packed), STATE);
        }
        dueRefused(RefusedTests::floats, x -> x.append(0x73737320), ARGUMENT);
    }

    private static void noSnapshot() {
        sentence("restore: if there is no snapshot, the state is unchanged");
        dueRefused(ReductionFinder::new, Checks::restore, STATE);
        dueRefused(RefusedTests::floats, Checks::restore, STATE);
    }

    private static void noCursor() {
        sentence("hasNext and next: if no cursor is open, the state is unchanged");
        Call[] makers = {ReductionFinder::new, RefusedTests::restored, () -> loop("s=1;")};
        for (Call maker : makers) {
            dueRefused(maker, ReductionFinder::hasNext, STATE);
            dueRefused(maker, ReductionFinder::next, STATE);
        }
    }

    private static ReductionFinder restored() {
        ReductionFinder x = ints();
        x.restore();
        return x;
    }

    private static void endOfCursor() {
        sentence("next: if there is no further node, the state is unchanged");
        dueRefused(RefusedTests::floats, ReductionFinder::next, NO_ELEMENT);
    }

    private static void noResults() {
        sentence("result, resultFloat and difference: if no results are kept, the state is unchanged");
        Call[] makers = {ReductionFinder::new, RefusedTests::restored, () -> loop("s=1;")};
        for (Call maker : makers) {
            dueRefused(maker, x -> x.result(0), STATE);
            dueRefused(maker, x -> x.resultFloat(0), STATE);
            dueRefused(maker, x -> x.difference(0), STATE);
        }
    }

    private static void resultsOfTheOtherMode() {
        sentence("result, resultFloat and difference: if the results are of the other mode, the state is unchanged");
        dueRefused(RefusedTests::ints, x -> x.resultFloat(7), STATE);
        dueRefused(RefusedTests::floats, x -> x.result(7), STATE);
        dueRefused(RefusedTests::stuck, x -> x.resultFloat(7), STATE);
        dueRefused(RefusedTests::stuck, x -> x.difference(7), STATE);
    }

    private static void noChains() {
        sentence("operator and terms: if the variable is of another kind, the state is unchanged");
        for (int variable = 2; variable < 8; variable++) {
            int v = variable;
            if (v != 3) {
                dueRefused(RefusedTests::ints, x -> x.operator(v), UNSUPPORTED);
                dueRefused(RefusedTests::ints, x -> x.terms(v), UNSUPPORTED);
            }
        }
        dueRefused(RefusedTests::stuck, x -> x.operator(2), UNSUPPORTED);
        dueRefused(RefusedTests::stuck, x -> x.terms(2), UNSUPPORTED);
    }

    private static void notParallel() {
        sentence("execute and cost: if the loop is not parallel, the state is unchanged");
        Call maker = () -> {
            ReductionFinder x = stuck();
            x.setMode(0);
            return x;
        };
        for (int order = 1; order <= 3; order++) {
            int given = order;
            dueRefused(maker, x -> x.execute(given, 4), STATE);
            dueRefused(maker, x -> x.cost(given, 4), STATE);
            dueRefused(RefusedTests::stuck, x -> x.cost(given, 4), STATE);
        }
    }

    private static void operatorsOfMode0() {
        sentence("execute: if the mode is 1 and a statement contains &, | or ^, the state is unchanged");
        for (int order = 0; order <= 3; order++) {
            int given = order;
            dueRefused(RefusedTests::stuck, x -> x.execute(given, 4), UNSUPPORTED);
            dueRefused(() -> {
                ReductionFinder x = ints();
                x.setMode(1);
                return x;
            }, x -> x.execute(given, 4), UNSUPPORTED);
        }
    }
}
