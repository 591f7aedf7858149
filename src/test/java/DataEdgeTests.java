/** The boundaries that the document names for the data: "Loop" of the description, and the promises 1 and 6 to 11. */
public final class DataEdgeTests extends Checks {
    public static void main(String[] args) {
        newObjectWithoutStatements();
        newObjectWithZeros();
        newObjectWithoutMore();
        newObjectsAreApart();
        modes();
        noSuchMode();
        counts();
        countsOutOfRange();
        elementPlaces();
        elementValues();
        elementValuesOutOfRange();
        noElementToSet();
        elementPlaceIsCheckedFirst();
        fillDraws();
        fillFromAnySeed();
        fillReachesBothEnds();
        fillLeavesOtherArrays();
        noArrayToFill();
        noElementToGet();
        initialValues();
        initialValuesOutOfRange();
        noVariableToSet();
        variableIsCheckedFirst();
        tellAll("DataEdgeTests");
    }

    // ---- Promise 1

    private static void newObjectWithoutStatements() {
        sentence("Creates a loop without statements");
        ReductionFinder x = new ReductionFinder();
        due(x.statements(), 0);
        due(x.isParallel(), true);
        due(x.cheapest(), 0);
        for (int variable = 0; variable < 8; variable++) {
            due(x.kind(variable), 0);
            due(x.depends(variable), 1 << variable);
            due(x.nodes(variable), 1);
            due(x.height(variable), 1);
            due(x.isExact(variable), true);
            due(nodesOf(x, variable), "" + (100 + variable));
        }
        x.setCount(16);
        for (int order = 0; order <= 3; order++) {
            due(x.execute(order, 8), 0);
            due(x.cost(order, 8), 0);
        }
    }

    private static void newObjectWithZeros() {
        sentence("in mode 0, with 0 iterations; all elements and initial values are 0");
        ReductionFinder x = new ReductionFinder();
        due(x.setMode(0), 0);
        due(x.setCount(0), 0);
        for (int array = 0; array < 3; array++) {
            for (int index = 0; index < 16; index++) {
                due(x.element(array, index), 0);
            }
        }
        for (int variable = 0; variable < 8; variable++) {
            due(x.setInitial(variable, 0), 0);
        }
        due(x.execute(0, 0), 0);
        for (int variable = 0; variable < 8; variable++) {
            due(x.result(variable), 0);
        }
    }

    private static void newObjectWithoutMore() {
        sentence("a new object has an empty buffer and no fault, cursor, results or snapshot");
        ReductionFinder x = new ReductionFinder();
        due(x.append(0), 0);
        due(x.faultPosition(), -1);
        dueThrow(x::hasNext, STATE);
        dueThrow(x::next, STATE);
        dueThrow(() -> x.result(0), STATE);
        dueThrow(() -> x.resultFloat(0), STATE);
        dueThrow(() -> x.difference(0), STATE);
        dueThrow(() -> restore(x), STATE);
    }

    private static void newObjectsAreApart() {
        sentence("what is done to one object is not done to another one");
        ReductionFinder x = loop("s=s+1;", 1, 3);
        ReductionFinder y = new ReductionFinder();
        x.setElement(0, 0, 5);
        x.setInitial(0, 6);
        x.execute(0, 0);
        x.open(0);
        x.save();
        appendText(x, "t");
        dueSameState(y, new ReductionFinder());
        due(x.resultFloat(0), 9.0f);
    }

    // ---- Promises 6 and 7

    private static void modes() {
        sentence("Sets the mode. Returns the previous mode");
        ReductionFinder x = new ReductionFinder();
        due(x.setMode(1), 0);
        due(x.setMode(1), 1);
        due(x.setMode(0), 1);
        due(x.setMode(0), 0);
    }

    private static void noSuchMode() {
        sentence("setMode: if there is no such mode");
        for (int previous = 0; previous <= 1; previous++) {
            for (int mode : new int[] {-1, 2, Integer.MIN_VALUE, Integer.MAX_VALUE}) {
                ReductionFinder x = new ReductionFinder();
                x.setMode(previous);
                dueThrow(() -> x.setMode(mode), ARGUMENT);
                due(x.setMode(0), previous);
            }
        }
    }

    private static void counts() {
        sentence("Sets the number of iterations: 0 to 16. Returns the previous number");
        ReductionFinder x = loop("s=s+1;");
        int previous = 0;
        for (int n = 0; n <= 16; n++) {
            due(x.setCount(n), previous);
            previous = n;
            x.execute(0, 0);
            due(x.result(0), n);
        }
        due(x.setCount(0), 16);
        due(x.setCount(16), 0);
    }

    private static void countsOutOfRange() {
        sentence("setCount: if the number is out of range");
        for (int previous : new int[] {0, 7, 16}) {
            for (int n : new int[] {-1, 17, Integer.MIN_VALUE, Integer.MAX_VALUE}) {
                ReductionFinder x = new ReductionFinder();
                x.setCount(previous);
                dueThrow(() -> x.setCount(n), ARGUMENT);
                due(x.setCount(0), previous);
            }
        }
    }

    // ---- Promises 8 to 10

    private static void elementPlaces() {
        sentence("three arrays, a, b and c, numbered 0 to 2, of 16 elements each");
        ReductionFinder x = new ReductionFinder();
        for (int array = 0; array < 3; array++) {
            for (int index = 0; index < 16; index++) {
                due(x.setElement(array, index, 16 * array + index - 20), 0);
            }
        }
        for (int array = 0; array < 3; array++) {
            for (int index = 0; index < 16; index++) {
                due(x.element(array, index), 16 * array + index - 20);
            }
        }
        // Iteration i reads the elements with the index i, up to the last one.
        loadText(x, "s=a[i];t=b[i];u=c[i];");
        for (int n = 1; n <= 16; n++) {
            x.setCount(n);
            x.execute(0, 0);
            due(x.result(0), n - 1 - 20);
            due(x.result(1), 16 + n - 1 - 20);
            due(x.result(2), 32 + n - 1 - 20);
        }
    }

    private static void elementValues() {
        sentence("An array element is an int from -99 to 99. setElement returns the previous value");
        ReductionFinder x = new ReductionFinder();
        int previous = 0;
        for (int value : new int[] {99, -99, 98, -98, 1, 0, -1, 99}) {
            due(x.setElement(2, 15, value), previous);
            due(x.element(2, 15), value);
            previous = value;
        }
    }

    private static void elementValuesOutOfRange() {
        sentence("setElement: if the value is out of range");
        for (int value : new int[] {-100, 100, Integer.MIN_VALUE, Integer.MAX_VALUE}) {
            ReductionFinder x = new ReductionFinder();
            x.setElement(0, 0, 42);
            dueThrow(() -> x.setElement(0, 0, value), ARGUMENT);
            dueThrow(() -> x.setElement(2, 15, value), ARGUMENT);
            due(x.element(0, 0), 42);
            due(x.element(2, 15), 0);
        }
    }

    private static void noElementToSet() {
        sentence("setElement: if there is no such array or index");
        ReductionFinder x = new ReductionFinder();
        for (int array : NO_ARRAYS) {
            dueThrow(() -> x.setElement(array, 0, 1), INDEX);
            dueThrow(() -> x.setElement(array, 15, 1), INDEX);
        }
        for (int index : NO_INDICES) {
            dueThrow(() -> x.setElement(0, index, 1), INDEX);
            dueThrow(() -> x.setElement(2, index, 1), INDEX);
        }
        dueThrow(() -> x.setElement(3, 16, 1), INDEX);
        dueThrow(() -> x.setElement(-1, -1, 1), INDEX);
        dueSameState(x, new ReductionFinder());
    }

    private static void elementPlaceIsCheckedFirst() {
        sentence("setElement: the condition that is listed first determines the exception");
        ReductionFinder x = new ReductionFinder();
        dueThrow(() -> x.setElement(3, 0, 100), INDEX);
        dueThrow(() -> x.setElement(-1, 0, -100), INDEX);
        dueThrow(() -> x.setElement(0, 16, 100), INDEX);
        dueThrow(() -> x.setElement(0, -1, -100), INDEX);
        dueThrow(() -> x.setElement(3, 16, 100), INDEX);
    }

    private static void dueElements(ReductionFinder x, int array, int... values) {
        for (int index = 0; index < 16; index++) {
            due(x.element(array, index), values[index]);
        }
    }

    private static void fillDraws() {
        sentence("a number z .. becomes z * 1664525 + 1013904223 with int overflow, and the element (z >>> 8) % 199 - 99");
        ReductionFinder x = new ReductionFinder();
        // From 1000, z is 2678429223 as an unsigned number; 10462614 is left of it, and 189 of that.
        due(x.fill(0, 1000), -124);
        dueElements(x, 0, 90, -84, -85, -92, 46, -99, 63, 44, -72, 54, -81, 75, 49, -55, 15, 8);
        due(x.fill(0, 0), -187);
        dueElements(x, 0, -34, -37, 87, -46, 30, -78, 43, 75, 12, 93, -94, -20, -8, -95, -97, -18);
    }

    private static void fillFromAnySeed() {
        sentence("which is the seed at first: the least, the greatest and negative seeds");
        ReductionFinder x = new ReductionFinder();
        due(x.fill(1, Integer.MAX_VALUE), -157);
        dueElements(x, 1, -7, -79, 25, 39, -45, -61, 63, -97, 62, 62, -38, -35, -15, -28, -71, 68);
        due(x.fill(1, Integer.MIN_VALUE), -357);
        dueElements(x, 1, -72, -75, -74, -8, -8, -40, 5, -86, 50, -68, -56, 18, 30, -57, 64, 20);
        due(x.fill(1, -1), -110);
        dueElements(x, 1, 31, -41, 63, 1, -83, -99, 25, 64, 24, 24, 0, 3, -53, -66, 90, -93);
    }

    private static void fillReachesBothEnds() {
        sentence("a draw may be -99 and 99, for the first index and for the last one");
        ReductionFinder x = new ReductionFinder();
        due(x.fill(2, 1), 9);
        due(x.element(2, 0), -99);
        due(x.fill(2, 96), -36);
        due(x.element(2, 0), 99);
        due(x.fill(2, 132), -375);
        due(x.element(2, 15), -99);
        due(x.fill(2, 53), -46);
        due(x.element(2, 15), 99);
        for (int seed = 0; seed < 20; seed++) {
            int sum = x.fill(0, seed * 123456789);
            for (int index = 0; index < 16; index++) {
                int value = x.element(0, index);
                due(value >= -99 && value <= 99, true);
                sum -= value;
            }
            due(sum, 0);
        }
    }

    private static void fillLeavesOtherArrays() {
        sentence("Sets all elements of an array, whatever n is, and of no other one");
        for (int array = 0; array < 3; array++) {
            ReductionFinder x = new ReductionFinder();
            x.setCount(array);
            for (int other = 0; other < 3; other++) {
                setElements(x, other, 1, 2, 3, 4, 5, 6, 7, 8, 9, 10, 11, 12, 13, 14, 15, 16);
            }
            x.fill(array, 1);
            for (int other = 0; other < 3; other++) {
                if (other == array) {
                    dueElements(x, other, -99, -34, -11, -94, -57, -57, -16, 86, 1, -38, 87, 33, 37, 76, 38, 57);
                } else {
                    dueElements(x, other, 1, 2, 3, 4, 5, 6, 7, 8, 9, 10, 11, 12, 13, 14, 15, 16);
                }
            }
        }
    }

    private static void noArrayToFill() {
        sentence("fill: if there is no such array");
        ReductionFinder x = new ReductionFinder();
        for (int array : NO_ARRAYS) {
            dueThrow(() -> x.fill(array, 1), INDEX);
        }
        dueSameState(x, new ReductionFinder());
    }

    private static void noElementToGet() {
        sentence("element: if there is no such array or index");
        ReductionFinder x = new ReductionFinder();
        for (int array : NO_ARRAYS) {
            dueThrow(() -> x.element(array, 0), INDEX);
            dueThrow(() -> x.element(array, 15), INDEX);
        }
        for (int index : NO_INDICES) {
            dueThrow(() -> x.element(0, index), INDEX);
            dueThrow(() -> x.element(2, index), INDEX);
        }
        due(x.element(0, 0), 0);
        due(x.element(2, 15), 0);
    }

    // ---- Promise 11

    private static void initialValues() {
        sentence("an initial value of a variable is an int from -999 to 999. setInitial returns the previous one");
        ReductionFinder x = new ReductionFinder();
        for (int variable = 0; variable < 8; variable++) {
            due(x.setInitial(variable, 999), 0);
            due(x.setInitial(variable, -999), 999);
            due(x.setInitial(variable, 998), -999);
            due(x.setInitial(variable, -998), 998);
            due(x.setInitial(variable, variable + 1), -998);
        }
        x.execute(0, 0);
        for (int variable = 0; variable < 8; variable++) {
            due(x.result(variable), variable + 1);
            due(x.setInitial(variable, 0), variable + 1);
        }
    }

    private static void initialValuesOutOfRange() {
        sentence("setInitial: if the value is out of range");
        for (int value : new int[] {-1000, 1000, Integer.MIN_VALUE, Integer.MAX_VALUE}) {
            ReductionFinder x = new ReductionFinder();
            x.setInitial(0, 77);
            dueThrow(() -> x.setInitial(0, value), ARGUMENT);
            dueThrow(() -> x.setInitial(7, value), ARGUMENT);
            due(initialOf(x, 0), 77);
            due(initialOf(x, 7), 0);
        }
    }

    private static void noVariableToSet() {
        sentence("setInitial: if there is no such variable");
        ReductionFinder x = new ReductionFinder();
        for (int variable : NO_VARIABLES) {
            dueThrow(() -> x.setInitial(variable, 1), INDEX);
        }
        dueSameState(x, new ReductionFinder());
    }

    private static void variableIsCheckedFirst() {
        sentence("setInitial: the condition that is listed first determines the exception");
        ReductionFinder x = new ReductionFinder();
        for (int variable : NO_VARIABLES) {
            dueThrow(() -> x.setInitial(variable, 1000), INDEX);
            dueThrow(() -> x.setInitial(variable, -1000), INDEX);
        }
    }
}
