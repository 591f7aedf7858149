/** The boundaries that the document names for values: "Values" of the description, seen through execute. */
public final class ValueEdgeTests extends Checks {
    private static final int LEAST = Integer.MIN_VALUE;
    private static final int GREATEST = Integer.MAX_VALUE;

    // 2 to the 30th, as an expression.
    private static final String HALF = "64*64*64*64*64";

    /**
     * t becomes 2 to the 76th, the last place of 1.0e30f, which is 13234890 of these; u becomes 1.0e30f itself. All
     * steps to it are exact in floats.
     */
    private static final String LIMIT = "t=64*64*64*64;t=t*t*t*16;u=(((13*99+63)*99+35)*99+75)*t;";
    private static final float PLACE = 0x1p76f;
    private static final float TOP = 1.0e30f;

    public static void main(String[] args) {
        plusOverflows();
        minusOverflows();
        timesOverflows();
        bitsOfInts();
        leastAndGreatest();
        choiceOfInts();
        choiceOfFloats();
        floatsAreConverted();
        floatsAreRounded();
        limitIsWhatTheTextsSay();
        timesAtTheLimit();
        plusAtTheLimit();
        minusAtTheLimit();
        limitAfterEachStep();
        limitBeyondAllFloats();
        limitOfPartialSums();
        limitOfPartialSumsInATree();
        limitOfPartialProducts();
        leastAndGreatestFloats();
        bitsOnlyInMode0();
        bitsAnywhereInAStatement();
        tellAll("ValueEdgeTests");
    }

    private static int intOf(String text) {
        ReductionFinder x = loop(text, 0, 1);
        x.execute(0, 0);
        return x.result(0);
    }

    private static float floatOf(String text) {
        ReductionFinder x = loop(text, 1, 1);
        x.execute(0, 0);
        return x.resultFloat(0);
    }

    // ---- Mode 0

    private static void plusOverflows() {
        sentence("In mode 0 .. + .. computed with overflow");
        due(intOf("s=" + HALF + "-1+" + HALF + ";"), GREATEST);
        due(intOf("s=" + HALF + "+" + HALF + ";"), LEAST);
        due(intOf("s=" + HALF + "-1+" + HALF + "+1;"), LEAST);
        due(intOf("t=" + HALF + "*2;s=t+t;"), 0);
        due(intOf("t=" + HALF + "*2;s=t+(0-1);"), GREATEST);
        // Sixteen times the same sum, one over the greatest int after the second one.
        ReductionFinder x = loop("s=s+" + HALF + ";", 0, 16);
        int[] sums = {0, 1 << 30, LEAST, LEAST + (1 << 30), 0};
        for (int n = 0; n <= 16; n++) {
            x.setCount(n);
            for (int order = 0; order <= 3; order++) {
                x.execute(order, 5);
                due(x.result(0), sums[n % 4]);
            }
        }
    }

    private static void minusOverflows() {
        sentence("In mode 0 .. - .. computed with overflow");
        due(intOf("s=0-" + HALF + "-" + HALF + ";"), LEAST);
        due(intOf("s=0-" + HALF + "-" + HALF + "-1;"), GREATEST);
        due(intOf("t=" + HALF + "*2;s=0-t;"), LEAST);
        due(intOf("t=" + HALF + "*2;s=1-t;"), LEAST + 1);
        due(intOf("t=" + HALF + "*2;s=0-1-t;"), GREATEST);
    }

    private static void timesOverflows() {
        sentence("In mode 0 .. * .. computed with overflow");
        due(intOf("s=" + HALF + "*2;"), LEAST);
        due(intOf("s=" + HALF + "*4;"), 0);
        due(intOf("s=" + HALF + "*3;"), -(1 << 30));
        due(intOf("t=" + HALF + "*2;s=t*(0-1);"), LEAST);
        due(intOf("t=" + HALF + "*2-1;s=t*t;"), 1);
        due(intOf("s=99*99*99*99*99;"), (int) 9509900499L);
        due(intOf("s=99*99*99*99*(0-99);"), (int) -9509900499L);
    }

    private static void bitsOfInts() {
        sentence("the operators &, | and ^ in mode 0, on both signs");
        due(intOf("s=(0-1)&99;"), 99);
        due(intOf("s=0-1&(0-2);"), -2);
        due(intOf("s=(0-1)|99;"), -1);
        due(intOf("s=0|0;"), 0);
        due(intOf("s=(0-1)^99;"), -100);
        due(intOf("s=99^99;"), 0);
        due(intOf("t=" + HALF + "*2;s=t|1;"), LEAST + 1);
        due(intOf("t=" + HALF + "*2;s=t^(t-1);"), -1);
        due(intOf("t=" + HALF + "*2;s=t&(t-1);"), 0);
    }

    private static void leastAndGreatest() {
        sentence("min and max of ints, of equal ones and of the least and the greatest one");
        due(intOf("s=min(1,2);"), 1);
        due(intOf("s=min(2,1);"), 1);
        due(intOf("s=min(2,2);"), 2);
        due(intOf("s=max(1,2);"), 2);
        due(intOf("s=max(2,1);"), 2);
        due(intOf("s=max(0-1,0-1);"), -1);
        due(intOf("t=" + HALF + "*2;s=min(t,t-1);"), LEAST);
        due(intOf("t=" + HALF + "*2;s=max(t,t-1);"), GREATEST);
        due(intOf("t=" + HALF + "*2;s=max(t-1,t);"), GREATEST);
    }

    private static void choiceOfInts() {
        sentence("if(x,y,z) is y if x is greater than 0, and otherwise z: in mode 0");
        due(intOf("s=if(1,7,8);"), 7);
        due(intOf("s=if(99,7,8);"), 7);
        due(intOf("s=if(0,7,8);"), 8);
        due(intOf("s=if(0-1,7,8);"), 8);
        due(intOf("t=" + HALF + "*2;s=if(t,7,8);"), 8);
        due(intOf("t=" + HALF + "*2;s=if(t-1,7,8);"), 7);
    }

    // ---- Mode 1

    private static void choiceOfFloats() {
        sentence("if(x,y,z) is y if x is greater than 0, and otherwise z: in mode 1");
        due(floatOf("s=if(1,7,8);"), 7.0f);
        due(floatOf("s=if(0,7,8);"), 8.0f);
        due(floatOf("s=if(0-1,7,8);"), 8.0f);
        due(floatOf("s=if(0*(0-1),7,8);"), 8.0f);
        due(floatOf(LIMIT + "s=if(u,7,8);"), 7.0f);
        due(floatOf(LIMIT + "s=if(0-u,7,8);"), 8.0f);
    }

    private static void floatsAreConverted() {
        sentence("numbers, elements and initial values are converted to floats");
        ReductionFinder x = loop("s=0;t=99;u=a[i];v=c[i];", 1, 16);
        x.setElement(0, 15, 99);
        x.setElement(2, 15, -99);
        x.setInitial(6, 999);
        x.setInitial(7, -999);
        for (int order = 0; order <= 3; order++) {
            due(x.execute(order, 8), 3);
            float[] want = {0.0f, 99.0f, 99.0f, -99.0f, 0.0f, 0.0f, 999.0f, -999.0f};
            for (int variable = 0; variable < 8; variable++) {
                due(x.resultFloat(variable), want[variable]);
            }
        }
    }

    private static void floatsAreRounded() {
        sentence("In mode 1 all values are floats: the first whole number that is not one is 16777217");
        due(floatOf("s=64*64*64*64-1;"), 16777215.0f);
        due(floatOf("s=64*64*64*64+1;"), 16777216.0f);
        due(floatOf("s=1+64*64*64*64+1;"), 16777216.0f);
        due(floatOf("s=64*64*64*64+2;"), 16777218.0f);
        due(floatOf("s=64*64*64*64+3;"), 16777220.0f);
        due(floatOf("s=0-64*64*64*64-1;"), -16777216.0f);
        due(floatOf("s=99*99*99*99;"), 99.0f * 99.0f * 99.0f * 99.0f);
        due(floatOf("s=" + HALF + "*2;"), 2147483648.0f);
    }

    private static void limitIsWhatTheTextsSay() {
        sentence("1.0e30f is 13234890 times 2 to the 76th, and no number of the tests is rounded on the way to it");
        due(13234890.0f * PLACE, TOP);
        due(13234889.0f * PLACE < TOP, true);
        due(13234891.0f * PLACE > TOP, true);
        due(floatOf(LIMIT + "s=t;"), PLACE);
        due(floatOf(LIMIT + "s=u;"), TOP);
    }

    /** The sum, with a number of its own in c[0] as its last part, is 13234815 + c[0]. */
    private static float floatWithLastPart(String text, int last) {
        ReductionFinder x = loop("t=64*64*64*64;t=t*t*t*16;" + text, 1, 1);
        x.setElement(2, 0, last);
        x.execute(0, 0);
        return x.resultFloat(0);
    }

    private static void timesAtTheLimit() {
        sentence("after each .. * .. a result greater than 1.0e30f becomes 1.0e30f and a result less than -1.0e30f ..");
        String up = "s=(((13*99+63)*99+35)*99+c[i])*t;";
        String down = "s=(((13*99+63)*99+35)*99+c[i])*(0-t);";
        due(floatWithLastPart(up, 74), 13234889.0f * PLACE);
        due(floatWithLastPart(up, 75), TOP);
        due(floatWithLastPart(up, 76), TOP);
        due(floatWithLastPart(up, 99), TOP);
        due(floatWithLastPart(down, 74), -13234889.0f * PLACE);
        due(floatWithLastPart(down, 75), -TOP);
        due(floatWithLastPart(down, 76), -TOP);
        due(floatWithLastPart(down, 99), -TOP);
    }

    private static void plusAtTheLimit() {
        sentence("after each + .. a result greater than 1.0e30f becomes 1.0e30f and a result less than -1.0e30f ..");
        String up = "s=(((13*99+63)*99+35)*99+c[i])*t+t;";
        due(floatWithLastPart(up, 73), 13234889.0f * PLACE);
        due(floatWithLastPart(up, 74), TOP);
        due(floatWithLastPart(up, 75), TOP);
        String down = "s=(((13*99+63)*99+35)*99+c[i])*(0-t)+(0-t);";
        due(floatWithLastPart(down, 73), -13234889.0f * PLACE);
        due(floatWithLastPart(down, 74), -TOP);
        due(floatWithLastPart(down, 75), -TOP);
    }

    private static void minusAtTheLimit() {
        sentence("after each .. - .. a result greater than 1.0e30f becomes 1.0e30f and a result less than -1.0e30f ..");
        String up = "s=(((13*99+63)*99+35)*99+c[i])*t-(0-t);";
        due(floatWithLastPart(up, 73), 13234889.0f * PLACE);
        due(floatWithLastPart(up, 74), TOP);
        due(floatWithLastPart(up, 75), TOP);
        String down = "s=(((13*99+63)*99+35)*99+c[i])*(0-t)-t;";
        due(floatWithLastPart(down, 73), -13234889.0f * PLACE);
        due(floatWithLastPart(down, 74), -TOP);
        due(floatWithLastPart(down, 75), -TOP);
    }

    private static void limitAfterEachStep() {
        sentence("after each +, - and *: in the midst of an expression, too");
        due(floatOf(LIMIT + "s=u+t-t;"), 13234889.0f * PLACE);
        due(floatOf(LIMIT + "s=u+u-u;"), 0.0f);
        due(floatOf(LIMIT + "s=u*2-u;"), 0.0f);
        due(floatOf(LIMIT + "s=0-u-t+t;"), -13234889.0f * PLACE);
        due(floatOf(LIMIT + "s=u*(0-2)+u;"), 0.0f);
        due(floatOf(LIMIT + "s=u*0;"), 0.0f);
    }

    private static void limitBeyondAllFloats() {
        sentence("a result greater than 1.0e30f, even one that is no float any more");
        due(floatOf(LIMIT + "s=u*u;"), TOP);
        due(floatOf(LIMIT + "s=u*u*0;"), 0.0f);
        due(floatOf(LIMIT + "s=u*u-u*u;"), 0.0f);
        due(floatOf(LIMIT + "s=u*(0-u);"), -TOP);
        due(floatOf(LIMIT + "s=(0-u)*(0-u);"), TOP);
    }

    // ---- Combined partial results

    private static ReductionFinder partsOf(String step, int... parts) {
        ReductionFinder x = loop(LIMIT + step, 1, parts.length);
        for (int i = 0; i < parts.length; i++) {
            // 100 stands for 1.0e30f, which the step takes where a[i] is 1; else the part is b[i] times 2 to the 76th.
            x.setElement(0, i, parts[i] == 100 ? 1 : 0);
            x.setElement(1, i, parts[i] == 100 ? 0 : parts[i]);
        }
        return x;
    }

    private static void limitOfPartialSums() {
        sentence("also when partial results are combined: in the orders 1 and 2");
        for (int sign = 1; sign >= -1; sign -= 2) {
            String step = sign > 0 ? "s=s+if(a[i],u,b[i]*t);" : "s=s-if(a[i],u,b[i]*t);";
            for (int order = 1; order <= 2; order++) {
                ReductionFinder x = partsOf(step, 100, 1);
                x.execute(order, 2);
                due(x.resultFloat(0), sign * TOP);
                // The limit is met before the third part is added, though all three are within it.
                x = partsOf(step, 100, 2, -3);
                x.execute(order, 3);
                due(x.resultFloat(0), sign * 13234887.0f * PLACE);
                x = partsOf(step, 100, -3, 2);
                x.execute(order, 3);
                due(x.resultFloat(0), sign * 13234889.0f * PLACE);
            }
        }
    }

    private static void limitOfPartialSumsInATree() {
        sentence("also when partial results are combined: in order 3");
        for (int sign = 1; sign >= -1; sign -= 2) {
            String step = sign > 0 ? "s=s+if(a[i],u,b[i]*t);" : "s=s-if(a[i],u,b[i]*t);";
            ReductionFinder x = partsOf(step, 100, 1);
            x.execute(3, 0);
            due(x.resultFloat(0), sign * TOP);
            x = partsOf(step, 100, 1, -1, 0);
            x.execute(3, 0);
            due(x.resultFloat(0), sign * 13234889.0f * PLACE);
            x = partsOf(step, 100, -1, 2, -1);
            x.execute(3, 0);
            due(x.resultFloat(0), sign * TOP);
            x = partsOf(step, 100, 100, -3);
            x.execute(3, 0);
            due(x.resultFloat(0), sign * 13234887.0f * PLACE);
        }
    }

    private static void limitOfPartialProducts() {
        sentence("also when partial results are combined: products");
        ReductionFinder x = loop(LIMIT + "s=s*if(a[i],u,b[i]);", 1, 3);
        x.setInitial(0, 1);
        setElements(x, 0, 1, 0, 0);
        setElements(x, 1, 0, 2, 0);
        for (int last : new int[] {1, -1}) {
            x.setElement(1, 2, last);
            for (int order = 0; order <= 3; order++) {
                x.execute(order, 3);
                due(x.resultFloat(0), last * TOP);
            }
        }
        // From the left 1.0e30f * 2 is cut, and then taken -1 times; the initial value is the last one in a tree.
        x.setInitial(0, -2);
        for (int order = 1; order <= 3; order++) {
            x.execute(order, 3);
            due(x.resultFloat(0), TOP);
        }
    }

    private static void leastAndGreatestFloats() {
        sentence("min and max of floats, at the limit, too");
        due(floatOf("s=min(1,2);"), 1.0f);
        due(floatOf("s=min(2,1);"), 1.0f);
        due(floatOf("s=max(1,2);"), 2.0f);
        due(floatOf("s=max(2,1);"), 2.0f);
        due(floatOf("s=max(2,2);"), 2.0f);
        due(floatOf("s=min(0,0*(0-1));"), 0.0f);
        due(floatOf(LIMIT + "s=max(u,u-t);"), TOP);
        due(floatOf(LIMIT + "s=min(u,u-t);"), 13234889.0f * PLACE);
        due(floatOf(LIMIT + "s=min(0-u,u);"), -TOP);
    }

    // ---- Operators of mode 0

    private static void bitsOnlyInMode0() {
        sentence("The operators &, | and ^ exist in mode 0 only");
        for (String operator : new String[] {"&", "|", "^"}) {
            ReductionFinder x = loop("s=s" + operator + "1;", 0, 1);
            for (int order = 0; order <= 3; order++) {
                int given = order;
                due(x.execute(order, 1), operator.equals("&") ? 0 : 1);
                x.setMode(1);
                dueThrow(() -> x.execute(given, 1), UNSUPPORTED);
                x.setMode(0);
            }
        }
        for (String operator : new String[] {"s+1", "s-1", "s*2", "min(s,0-1)", "max(s,1)", "if(1,s+1,s)"}) {
            ReductionFinder x = loop("s=" + operator + ";", 1, 1);
            x.setInitial(0, 0);
            for (int order = 0; order <= 3; order++) {
                due(x.execute(order, 1), operator.equals("s*2") ? 0 : 1);
            }
        }
    }

    private static void bitsAnywhereInAStatement() {
        sentence("if the mode is 1 and a statement contains &, | or ^");
        String[] texts = {"s=1&2;s=3;", "s=1;t=2;u=3;v=4;w=5;x=6;y=7;z=8^9;", "s=if(1,2,3|4);", "s=min(1,2+(3&4));",
            "s=if(5^6,7,8);"};
        for (String text : texts) {
            // Even without an iteration in which it would be met.
            for (int n = 0; n <= 1; n++) {
                ReductionFinder x = loop(text, 1, n);
                for (int order = 0; order <= 3; order++) {
                    int given = order;
                    dueThrow(() -> x.execute(given, 2), UNSUPPORTED);
                }
                dueThrow(() -> x.resultFloat(0), STATE);
            }
        }
        ReductionFinder x = loop("s=1&2;", 1, 1);
        loadText(x, "s=1+2;");
        due(x.execute(0, 0), 1);
        due(x.resultFloat(0), 3.0f);
    }
}
