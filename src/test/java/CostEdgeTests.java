/** The boundaries that the document names for costs: the promises 27 and 28. */
public final class CostEdgeTests extends Checks {
    public static void main(String[] args) {
        nothingForNoIterations();
        sequenceTakesAll();
        statementsCountNotEndExpressions();
        eachOperatorAndFunction();
        lanesAndBlocksRoundUp();
        emptyPartsAreCombined();
        onlyReductionsAreCombined();
        treeRows();
        treeOfOne();
        orderAndWidthOutOfRange();
        widthIgnored();
        onlyIfParallel();
        conditionsInOrder();
        modeDoesNotMatter();
        cheapestOfNone();
        cheapestNotParallel();
        cheapestOfEqualOrders();
        cheapestOfEqualWidths();
        cheapestOfTheWidths();
        cheapestTree();
        cheapestOfAll();
        tellAll("CostEdgeTests");
    }

    private static void nothingForNoIterations() {
        sentence("If n is 0, the number is 0");
        for (String text : new String[] {"s=s+1;t=t*2*3;", "s=1+2;", "s=s;"}) {
            ReductionFinder x = loop(text);
            due(x.cost(0, 0), 0);
            due(x.cost(3, 0), 0);
            for (int width = 1; width <= 8; width++) {
                due(x.cost(1, width), 0);
                due(x.cost(2, width), 0);
            }
        }
        due(new ReductionFinder().cost(0, 0), 0);
        due(new ReductionFinder().cost(3, 0), 0);
        due(new ReductionFinder().cost(2, 8), 0);
    }

    private static void sequenceTakesAll() {
        sentence("Order 0 takes n times the number of operators and functions");
        ReductionFinder x = loop("s=s+a[i]*2;t=if(t,1,min(2,3));");
        for (int n = 0; n <= 16; n++) {
            x.setCount(n);
            due(x.cost(0, 0), 4 * n);
        }
        due(loop("s=1;t=u;", 0, 16).cost(0, 0), 0);
        due(loop("s=1" + repeated("+t", 48) + ";", 0, 16).cost(0, 0), 16 * 48);
    }

    private static void statementsCountNotEndExpressions() {
        sentence("the number of operators and functions in all statements");
        // The end expression of s has 31 of them, or none.
        due(loop(repeated("s=s+s;", 5), 0, 1).cost(0, 0), 5);
        due(loop(repeated("s=s+s;", 5) + "s=1;", 0, 3).cost(0, 0), 15);
    }

    private static void eachOperatorAndFunction() {
        sentence("each operator and each function counts once");
        String[] once = {"1+2", "1-2", "1*2", "1&2", "1|2", "1^2", "min(1,2)", "max(1,2)", "if(1,2,3)", "((1+2))"};
        for (String expression : once) {
            due(loop("s=" + expression + ";", 0, 1).cost(0, 0), 1);
        }
        due(loop("s=a[i];t=7;u=v;", 0, 1).cost(0, 0), 0);
    }

    private static void lanesAndBlocksRoundUp() {
        sentence("A partial execution of m iterations takes m times the number ..; all .. are made at the same time");
        // 3 operators and no reduction: the longest part tells.
        ReductionFinder x = loop("s=1+2*3-4;");
        int[][] longest = {
            {1, 1, 1, 1, 1, 1, 1, 1},
            {2, 1, 1, 1, 1, 1, 1, 1},
            {7, 4, 3, 2, 2, 2, 1, 1},
            {8, 4, 3, 2, 2, 2, 2, 1},
            {9, 5, 3, 3, 2, 2, 2, 2},
            {15, 8, 5, 4, 3, 3, 3, 2},
            {16, 8, 6, 4, 4, 3, 3, 2}};
        int[] counts = {1, 2, 7, 8, 9, 15, 16};
        for (int k = 0; k < counts.length; k++) {
            x.setCount(counts[k]);
            for (int width = 1; width <= 8; width++) {
                due(x.cost(1, width), 3 * longest[k][width - 1]);
                due(x.cost(2, width), 3 * longest[k][width - 1]);
            }
        }
    }

    private static void emptyPartsAreCombined() {
        sentence("In the orders 1 and 2, each reduction takes 1 unit for each partial execution to be combined");
        // 2 operators and 2 reductions: the parts without iterations are combined, too.
        ReductionFinder x = loop("s=s+1;t=t*2;u=3;");
        for (int width = 1; width <= 8; width++) {
            x.setCount(1);
            due(x.cost(1, width), 2 + 2 * width);
            due(x.cost(2, width), 2 + 2 * width);
            x.setCount(16);
            int longest = (16 + width - 1) / width;
            due(x.cost(1, width), 2 * longest + 2 * width);
            due(x.cost(2, width), 2 * longest + 2 * width);
        }
        x.setCount(5);
        due(x.cost(2, 4), 2 * 2 + 2 * 4);
    }

    private static void onlyReductionsAreCombined() {
        sentence("each reduction: from none of them to eight");
        due(new ReductionFinder().cost(1, 8), 0);
        due(loop("s=1+2;", 0, 8).cost(1, 8), 1);
        due(loop("s=1+2;", 0, 8).cost(3, 0), 1);
        ReductionFinder x = loop("s=s;t=t;u=u;v=v;w=w;x=x;y=y;z=z;", 0, 8);
        due(x.cost(0, 0), 0);
        due(x.cost(1, 1), 8);
        due(x.cost(1, 8), 64);
        due(x.cost(2, 8), 64);
        due(x.cost(3, 0), 32);
        // A variable that is not assigned and a private one are none.
        due(loop("s=t;u=u;", 0, 2).cost(1, 2), 2);
    }

    private static void treeRows() {
        sentence("in order 3, each reduction takes 1 unit for each new row of the tree and 1 for the initial value");
        ReductionFinder x = loop("s=s+1;t=t-1;u=max(u,2);v=4*5;");
        int[] rows = {0, 0, 1, 2, 2, 3, 3, 3, 3, 4, 4, 4, 4, 4, 4, 4, 4};
        for (int n = 1; n <= 16; n++) {
            x.setCount(n);
            due(x.cost(3, 0), 4 + 3 * (rows[n] + 1));
        }
    }

    private static void treeOfOne() {
        sentence("order 3: a row of one element needs no new row");
        due(loop("s=s+1;", 0, 1).cost(3, 0), 2);
        due(loop("s=s+1;", 0, 2).cost(3, 0), 3);
        due(loop("s=s;", 0, 1).cost(3, 0), 1);
    }

    private static void orderAndWidthOutOfRange() {
        sentence("cost: if the order, or a width that is not ignored, is out of range");
        ReductionFinder x = loop("s=s+1;", 0, 3);
        for (int order : new int[] {-1, 4, Integer.MIN_VALUE, Integer.MAX_VALUE}) {
            dueThrow(() -> x.cost(order, 1), ARGUMENT);
            dueThrow(() -> x.cost(order, 0), ARGUMENT);
        }
        for (int width : new int[] {0, 9, -1, Integer.MIN_VALUE, Integer.MAX_VALUE}) {
            dueThrow(() -> x.cost(1, width), ARGUMENT);
            dueThrow(() -> x.cost(2, width), ARGUMENT);
        }
        x.setCount(0);
        dueThrow(() -> x.cost(1, 0), ARGUMENT);
        dueThrow(() -> x.cost(2, 9), ARGUMENT);
        due(x.cost(1, 1), 0);
        due(x.cost(2, 8), 0);
    }

    private static void widthIgnored() {
        sentence("cost: the width is ignored for the orders 0 and 3");
        ReductionFinder x = loop("s=s+1;", 0, 3);
        for (int width : new int[] {0, 1, 8, 9, -1, Integer.MIN_VALUE, Integer.MAX_VALUE}) {
            due(x.cost(0, width), 3);
            due(x.cost(3, width), 4);
        }
    }

    private static void onlyIfParallel() {
        sentence("cost: if the order is not 0 and the loop is not parallel");
        for (String text : new String[] {"s=s+1;t=s;", "s=s*s;"}) {
            for (int n = 0; n <= 2; n += 2) {
                ReductionFinder x = loop(text, 0, n);
                dueThrow(() -> x.cost(1, 1), STATE);
                dueThrow(() -> x.cost(2, 8), STATE);
                dueThrow(() -> x.cost(3, 0), STATE);
                due(x.cost(0, 0), n);
            }
        }
    }

    private static void conditionsInOrder() {
        sentence("cost: the condition that is listed first determines the exception");
        ReductionFinder x = loop("s=s*s;", 0, 2);
        dueThrow(() -> x.cost(4, 1), ARGUMENT);
        dueThrow(() -> x.cost(-1, 1), ARGUMENT);
        dueThrow(() -> x.cost(1, 0), ARGUMENT);
        dueThrow(() -> x.cost(2, 9), ARGUMENT);
        dueThrow(() -> x.cost(3, 9), STATE);
    }

    private static void modeDoesNotMatter() {
        sentence("cost and cheapest answer in mode 1, too, and for operators of mode 0");
        ReductionFinder x = loop("s=s&1;t=t|2;", 1, 16);
        due(x.cost(0, 0), 32);
        due(x.cost(1, 4), 16);
        due(x.cost(3, 0), 12);
        due(x.cheapest(), 30);
    }

    // ---- Promise 28

    private static void cheapestOfNone() {
        sentence("cheapest: if all orders take 0 units, the lowest one");
        due(new ReductionFinder().cheapest(), 0);
        due(loop("s=s+1;").cheapest(), 0);
        ReductionFinder x = loop("s=1;");
        for (int n = 0; n <= 16; n++) {
            x.setCount(n);
            due(x.cheapest(), 0);
        }
    }

    private static void cheapestNotParallel() {
        sentence("If the loop is not parallel, this is order 0");
        for (String text : new String[] {"s=s+1;t=s*2*3*4*5*6*7;", "s=s*s;t=1+2+3+4+5;"}) {
            ReductionFinder x = loop(text);
            for (int n = 0; n <= 16; n++) {
                x.setCount(n);
                due(x.cheapest(), 0);
            }
        }
    }

    private static void cheapestOfEqualOrders() {
        sentence("of several, the lowest order");
        // 1 operator, no reduction, n = 1: all orders take 1 unit.
        due(loop("s=1+2;", 0, 1).cheapest(), 0);
        // n = 2: order 0 takes 2 units, all others 1.
        due(loop("s=1+2;", 0, 2).cheapest(), 12);
        // 1 operator, 1 reduction, n = 4: 4 units; 2 + 2, 1 + 4, 1 + 8; 1 + 3.
        due(loop("s=s+1;", 0, 4).cheapest(), 0);
        // 4 operators, 4 reductions, n = 6: 24; 12 + 8, 8 + 16, 4 + 32; 4 + 16.
        due(loop("s=s;t=t;u=u+1;v=v*2*3*4;", 0, 6).cheapest(), 12);
        // 8 operators, no reduction, n = 8: 64; 32, 16, 8; 8.
        due(loop("s=1+1+1+1+1+1+1+1+1;", 0, 8).cheapest(), 18);
    }

    private static void cheapestOfEqualWidths() {
        sentence("and of these the lowest width");
        // 1 operator, no reduction, n = 3 and n = 4: the widths 4 and 8 take 1 unit.
        due(loop("s=1+2;", 0, 3).cheapest(), 14);
        due(loop("s=1+2;", 0, 4).cheapest(), 14);
        // 2 operators, 2 reductions, n = 8: 16; 8 + 4, 4 + 8, 2 + 16; 2 + 8.
        due(loop("s=s+1;t=t+1;", 0, 8).cheapest(), 30);
        // 4 operators, 4 reductions, n = 7: 28; 16 + 8, 8 + 16, 4 + 32; 4 + 16.
        due(loop("s=s;t=t;u=u+1;v=v*2*3*4;", 0, 7).cheapest(), 30);
        // 3 operators, 2 reductions, n = 4: 12; 6 + 4, 3 + 8, 3 + 16; 3 + 6.
        due(loop("s=s+1;t=t+1+2;", 0, 4).cheapest(), 30);
    }

    private static void cheapestOfTheWidths() {
        sentence("Returns the order and the width, 2, 4 or 8");
        // No reduction: the width 3 would do for n = 3, and 5 for n = 5, but 4 and 8 are taken.
        ReductionFinder x = loop("s=1+2;");
        int[] want = {0, 0, 12, 14, 14, 18, 18, 18, 18, 30, 30, 30, 30, 30, 30, 30, 30};
        for (int n = 0; n <= 16; n++) {
            x.setCount(n);
            due(x.cheapest(), want[n]);
        }
        // The width 1 is not taken: 5 operators, 1 reduction, n = 1: 5; 5 + 2; 5 + 1.
        due(loop("s=s+1+2+3+4+5;", 0, 1).cheapest(), 0);
    }

    private static void cheapestTree() {
        sentence("and 30 for order 3");
        // 1 operator, 1 reduction, n = 5: 5; 3 + 2, 2 + 4, 1 + 8; 1 + 4: three of them are 5.
        due(loop("s=s+1;", 0, 5).cheapest(), 0);
        // n = 6: 6; 3 + 2; .. ; 1 + 4.
        due(loop("s=s+1;", 0, 6).cheapest(), 12);
        // n = 7: 7; 4 + 2, 2 + 4, 1 + 8; 1 + 4.
        due(loop("s=s+1;", 0, 7).cheapest(), 30);
        due(loop("s=s+1;", 0, 16).cheapest(), 30);
    }

    /** Looks for the least cost over all that cheapest may choose from. */
    private static void cheapestOfAll() {
        sentence("with the least number of time units");
        int[][] choices = {{0, 0}, {1, 2}, {1, 4}, {1, 8}, {2, 2}, {2, 4}, {2, 8}, {3, 0}};
        String[] texts = {"s=s+1;", "s=s;t=t;u=u+1;v=v*2*3*4;", "s=s+1;t=t*2;u=min(u,3);v=v-1;w=w+1;",
            "s=1+2+3+4+5+6+7+8;t=t+1;", "s=s;", "s=s;t=t;u=1+2;", "s=s+1+2+3+4+5+6+7+8+9;"};
        for (String text : texts) {
            ReductionFinder x = loop(text);
            for (int n = 0; n <= 16; n++) {
                x.setCount(n);
                int best = 0;
                int least = Integer.MAX_VALUE;
                for (int[] choice : choices) {
                    int units = x.cost(choice[0], choice[1]);
                    if (units < least) {
                        least = units;
                        best = 10 * choice[0] + choice[1];
                    }
                }
                due(x.cheapest(), best);
            }
        }
    }
}
