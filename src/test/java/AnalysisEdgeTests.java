/**
 * The boundaries that the document names for the analysis: "End expressions", "Chains" and "Kinds of variables" of the
 * description, and the promises 12 to 22.
 */
public final class AnalysisEdgeTests extends Checks {
    private static final String[] STEPS = {"s+9", "s*9", "s&9", "s|9", "s^9", "min(s,9)", "max(s,9)"};
    private static final String[] STEPS_TURNED = {"9+s", "9*s", "9&s", "9|s", "9^s", "min(9,s)", "max(9,s)"};

    public static void main(String[] args) {
        endExpressionReplaces();
        endExpressionOfUnassigned();
        nodesOccurOften();
        chainOfStartValue();
        chainOfEachOperator();
        chainOfBothOperands();
        chainOfOtherOperator();
        chainWithMinus();
        chainOfIf();
        chainOfIfWithCondition();
        chainOfIfWithOneBranch();
        chainOperatorIsTheLowest();
        kindNotAssigned();
        kindPrivate();
        kindReduction();
        kindScan();
        kindOthers();
        kindOfEightVariables();
        parallel();
        noVariable();
        noChainToAsk();
        termsOfBothBranches();
        dependsOnNoneAndAll();
        nodesFrom1To200();
        heights();
        heightOfGreatestOperand();
        openInPlaceOfAnother();
        openBesideTheVariables();
        cursorOverOneNode();
        cursorAtItsEnd();
        cursorBeforeOpen();
        cursorAfterLoadAndRestore();
        cursorAfterRefusedCalls();
        cursorOrder();
        nodeCodes();
        exactKinds();
        exactReductions();
        tellAll("AnalysisEdgeTests");
    }

    // ---- End expressions

    private static void endExpressionReplaces() {
        sentence("replacing .. each variable that was assigned before by its expression then");
        due(nodesOf(loop("s=t;t=s;"), 1), "101");
        due(nodesOf(loop("t=s;s=t;"), 0), "100");
        due(nodesOf(loop("s=s+1;"), 0), "300 100 1");
        due(nodesOf(loop("s=s+1;s=s*2;"), 0), "301 300 100 1 2");
        ReductionFinder x = loop("s=1;t=s;s=2;u=s+t;s=s+s;");
        due(nodesOf(x, 0), "300 2 2");
        due(nodesOf(x, 1), "1");
        due(nodesOf(x, 2), "300 2 1");
        due(nodesOf(loop("u=s;s=3;"), 2), "100");
    }

    private static void endExpressionOfUnassigned() {
        sentence("The end expression of a variable that is not assigned is its start value");
        ReductionFinder x = loop("s=t+u;");
        for (int variable = 1; variable < 8; variable++) {
            due(nodesOf(x, variable), "" + (100 + variable));
            due(x.nodes(variable), 1);
            due(x.height(variable), 1);
            due(x.depends(variable), 1 << variable);
        }
    }

    private static void nodesOccurOften() {
        sentence("a node is counted as often as it occurs");
        due(loop("s=t+t;").nodes(0), 3);
        due(loop("s=t+t;s=s+s;").nodes(0), 7);
        due(loop("u=a[i]*7;s=if(u,u,u);").nodes(0), 10);
        due(loop("s=((((t))));").nodes(0), 1);
    }

    // ---- Chains

    private static void dueChain(String expression, int operator, int terms) {
        ReductionFinder x = loop("s=" + expression + ";");
        due(x.kind(0), 2);
        due(answerOf(() -> x.operator(0)), operator);
        due(answerOf(() -> x.terms(0)), terms);
    }

    private static void dueNoChain(String expression) {
        ReductionFinder x = loop("s=" + expression + ";");
        due(x.kind(0), 4);
        dueThrow(() -> x.operator(0), UNSUPPORTED);
        dueThrow(() -> x.terms(0), UNSUPPORTED);
    }

    private static void chainOfStartValue() {
        sentence("it is the start value of v");
        dueChain("s", 0, 0);
        dueChain("(s)", 0, 0);
        due(loop("s=t;").kind(0), 1);
        due(loop("s=7;").kind(0), 1);
        due(loop("s=a[i];").kind(0), 1);
    }

    private static void chainOfEachOperator() {
        sentence("it is x o y, where o is the operator, one of x and y is a chain of v");
        for (int operator = 0; operator < 7; operator++) {
            dueChain(STEPS[operator], operator, 1);
            dueChain(STEPS_TURNED[operator], operator, 1);
        }
        dueChain("min(max(1,t),min(s,a[i]))", 5, 2);
        dueChain("max(max(max(s,1),2),min(3,4))", 6, 3);
        dueChain("1+(2+(3+(4+s)))", 0, 4);
        dueChain("t*u*s*v*w", 1, 3);
        dueChain("s+t*(u-v)", 0, 1);
    }

    private static void chainOfBothOperands() {
        sentence("and the other one does not contain the start value of v");
        String[] twice = {"s+s", "s*s", "s&s", "s|s", "s^s", "min(s,s)", "max(s,s)", "s-s"};
        for (String expression : twice) {
            dueNoChain(expression);
        }
        dueNoChain("s+(1+s)");
        dueNoChain("s+2*s");
        dueNoChain("s+1+s");
        dueNoChain("min(s,t+s)");
        dueNoChain("s*if(s,1,2)");
        dueNoChain("s+a[i]*(t-min(u,s))");
    }

    private static void chainOfOtherOperator() {
        sentence("x o y, where o is the operator: the same one all along");
        for (int outer = 0; outer < 7; outer++) {
            for (int inner = 0; inner < 7; inner++) {
                String whole = STEPS[outer].replace("s", "(" + STEPS[inner] + ")");
                if (outer == inner) {
                    dueChain(whole, outer, 2);
                } else {
                    dueNoChain(whole);
                }
            }
        }
    }

    private static void chainWithMinus() {
        sentence("the operator is +, and it is x - y, where x is a chain of v, and y does not contain the start value");
        dueChain("s-1", 0, 1);
        dueChain("s-1-t", 0, 2);
        dueChain("1+s-2", 0, 2);
        dueChain("2+(s-1)", 0, 2);
        dueNoChain("1-s");
        dueNoChain("t-(1-s)");
        dueNoChain("s-s");
        dueNoChain("s-(t+s)");
        dueNoChain("1-s+2");
        for (int operator = 1; operator < 7; operator++) {
            dueNoChain("(" + STEPS[operator] + ")-1");
            dueNoChain(STEPS[operator].replace("s", "(s-1)"));
        }
    }

    private static void chainOfIf() {
        sentence("it is if(x,y,z), where .. y and z are chains of v");
        dueChain("if(t,s,s)", 0, 0);
        for (int operator = 0; operator < 7; operator++) {
            dueChain("if(t,s," + STEPS[operator] + ")", operator, 1);
            dueChain("if(t," + STEPS[operator] + ",s)", operator, 1);
            dueChain("if(t," + STEPS[operator] + "," + STEPS_TURNED[operator] + ")", operator, 2);
            dueChain(STEPS[operator].replace("s", "if(t,s," + STEPS[operator] + ")"), operator, 2);
            dueNoChain("if(t," + STEPS[operator] + "," + STEPS[(operator + 1) % 7] + ")");
        }
        dueChain("if(t,if(u,s,s-1),if(v,s+2,s))", 0, 2);
    }

    private static void chainOfIfWithCondition() {
        sentence("if(x,y,z), where x does not contain the start value of v");
        dueNoChain("if(s,s,s)");
        dueNoChain("if(s,s+1,s)");
        dueNoChain("if(t-s,s,s+1)");
        dueNoChain("if(s,1,2)");
        dueNoChain("1+if(t,if(s,s,s),s)");
        dueChain("if(t-u,s,s+1)", 0, 1);
    }

    private static void chainOfIfWithOneBranch() {
        sentence("y and z are chains of v: both of them");
        dueNoChain("if(t,s,1)");
        dueNoChain("if(t,1,s)");
        dueNoChain("if(t,s,1-s)");
        dueNoChain("if(t,s*s,s)");
        due(loop("s=if(t,1,2);").kind(0), 1);
    }

    private static void chainOperatorIsTheLowest() {
        sentence("The operator of a chain of v is the one with the lowest number for which the expression is a chain");
        dueChain("s", 0, 0);
        dueChain("if(t,s,if(u,s,s))", 0, 0);
        dueChain("if(t,s,if(u,s,s|1))", 3, 1);
        dueChain("if(t,s,if(u,max(s,2),s))", 6, 1);
    }

    // ---- Promise 12

    private static void dueKinds(String text, int... want) {
        ReductionFinder x = loop(text);
        for (int variable = 0; variable < 8; variable++) {
            due(x.kind(variable), variable < want.length ? want[variable] : 0);
        }
    }

    private static void kindNotAssigned() {
        sentence("0: it is not assigned");
        dueKinds("s=t;", 1, 0);
        dueKinds("s=s+t;", 2, 0);
        dueKinds("s=t*s;t=t;", 2, 3);
        due(new ReductionFinder().kind(0), 0);
        due(new ReductionFinder().kind(7), 0);
    }

    private static void kindPrivate() {
        sentence("1, private: it is assigned, and its start value does not occur in the end expression of any assigned variable");
        dueKinds("s=1;", 1);
        dueKinds("s=t+a[i];", 1);
        dueKinds("s=1;t=s;", 1, 1);
        dueKinds("s=s*s;s=2;", 1);
        dueKinds("t=s;s=1;t=2;", 1, 1);
        dueKinds("s=s+1;s=t;", 1, 0);
    }

    private static void kindReduction() {
        sentence("2, reduction: its start value does not occur in the end expression of any other assigned variable, and ..");
        dueKinds("s=s;", 2);
        dueKinds("s=s+1;", 2);
        dueKinds("s=s+1;t=t*2;", 2, 2);
        dueKinds("s=s+t;", 2, 0);
        dueKinds("t=1;s=s+t;", 2, 1);
        dueKinds("t=s;s=s+1;t=2;", 2, 1);
        dueKinds("s=s+1;s=s-2;s=3+s;", 2);
    }

    private static void kindScan() {
        sentence("3, scan: its end expression is a chain of it, and its start value occurs in .. another assigned variable");
        dueKinds("s=s+1;t=s;", 3, 1);
        dueKinds("t=s;s=s+1;", 3, 1);
        dueKinds("s=s;t=s;", 3, 1);
        dueKinds("s=s+1;t=t+s;", 3, 2);
        dueKinds("s=s+1;t=t*s*s;", 3, 2);
        dueKinds("s=s+t;t=t+1;", 2, 3);
        dueKinds("s=s+t;t=t+s;", 3, 4);
        dueKinds("s=min(s,1);z=s;", 3, 0, 0, 0, 0, 0, 0, 1);
    }

    private static void kindOthers() {
        sentence("4: all others");
        dueKinds("s=s*s;", 4);
        dueKinds("t=s;s=1;", 4, 1);
        dueKinds("s=s*s;t=s;", 4, 1);
        dueKinds("s=t;t=s+1;", 1, 3);
        dueKinds("u=t;t=s;s=u;", 4, 4, 1);
        dueKinds("s=1-s;", 4);
    }

    private static void kindOfEightVariables() {
        sentence("eight variables, numbered 0 to 7 in alphabetical order");
        dueKinds("s=1;t=t+1;u=u;v=v*v;w=w&1;x=w;y=y-y;z=max(z,1);", 1, 2, 2, 4, 3, 1, 4, 2);
        dueKinds("z=z+1;", 0, 0, 0, 0, 0, 0, 0, 2);
        dueKinds("s=s+z;t=t+z;u=u+z;v=v+z;w=w+z;x=x+z;y=y+z;z=z+1;", 2, 2, 2, 2, 2, 2, 2, 3);
    }

    private static void parallel() {
        sentence("The loop is parallel if no variable is of the kind 3 or 4");
        due(new ReductionFinder().isParallel(), true);
        due(loop("s=1;").isParallel(), true);
        due(loop("s=s;").isParallel(), true);
        due(loop("s=1;t=t+s;u=max(u,2);").isParallel(), true);
        due(loop("s=s+1;t=s;").isParallel(), false);
        due(loop("s=s*s;").isParallel(), false);
        due(loop("s=s*s;t=t+1;").isParallel(), false);
        due(loop("t=t+1;z=1-z;").isParallel(), false);
        due(loop("s=s+1;z=s;").isParallel(), false);
        due(loop("z=z+1;s=z;").isParallel(), false);
        due(loop("s=s*s;s=1;").isParallel(), true);
    }

    private static void noVariable() {
        sentence("if there is no such variable");
        ReductionFinder x = loop("s=s+1;z=z*2;");
        for (int variable : NO_VARIABLES) {
            dueThrow(() -> x.kind(variable), INDEX);
            dueThrow(() -> x.operator(variable), INDEX);
            dueThrow(() -> x.terms(variable), INDEX);
            dueThrow(() -> x.depends(variable), INDEX);
            dueThrow(() -> x.nodes(variable), INDEX);
            dueThrow(() -> x.height(variable), INDEX);
            dueThrow(() -> x.open(variable), INDEX);
            dueThrow(() -> x.isExact(variable), INDEX);
        }
        due(x.operator(0), 0);
        due(x.operator(7), 1);
        due(x.terms(0), 1);
        due(x.terms(7), 1);
        due(x.depends(0), 1);
        due(x.depends(7), 128);
        due(x.nodes(7), 3);
        due(x.height(7), 2);
        due(x.open(7), 3);
        due(x.isExact(7), true);
    }

    // ---- Promises 13 and 14

    private static void noChainToAsk() {
        sentence("if the variable is of another kind");
        // The kinds of s to w are 1, 2, 3, 1 and 4, and that of x is 0.
        ReductionFinder x = loop("s=1;t=t+1;u=u*2*3;v=u;w=w-w;");
        Object[] operators = {UNSUPPORTED, 0, 1, UNSUPPORTED, UNSUPPORTED, UNSUPPORTED, UNSUPPORTED, UNSUPPORTED};
        Object[] terms = {UNSUPPORTED, 1, 2, UNSUPPORTED, UNSUPPORTED, UNSUPPORTED, UNSUPPORTED, UNSUPPORTED};
        for (int variable = 0; variable < 8; variable++) {
            int v = variable;
            due(answerOf(() -> x.operator(v)), operators[v]);
            due(answerOf(() -> x.terms(v)), terms[v]);
        }
        dueThrow(() -> new ReductionFinder().operator(0), UNSUPPORTED);
        dueThrow(() -> new ReductionFinder().terms(7), UNSUPPORTED);
    }

    private static void termsOfBothBranches() {
        sentence("Terms of both branches of an if are counted");
        dueChain("if(t,s+1,s)", 0, 1);
        dueChain("if(t,s,s-1)", 0, 1);
        dueChain("if(t,s+1,s+1)", 0, 2);
        dueChain("if(t,s+1+2,s+1-2-3)", 0, 5);
        dueChain("if(t,s+1,s)+2", 0, 2);
        dueChain("if(t+1+2,s,s)", 0, 0);
        dueChain("s+(1+2+3)", 0, 1);
        due(loop("s=s+1;s=if(t,s,s);").terms(0), 2);
        due(loop("s=s+1;s=if(t,s,s);s=if(u,s,s+3);").terms(0), 5);
        // A chain of a scan: 5 doublings of one term, each of them in both branches.
        ReductionFinder x = loop("s=s*2;" + repeated("s=if(1,s,s);", 5) + "u=s;");
        due(x.kind(0), 3);
        due(x.operator(0), 1);
        due(x.terms(0), 32);
    }

    // ---- Promises 15 to 17

    private static void dependsOnNoneAndAll() {
        sentence("Returns the set of variables as a bit mask, bit k for variable k");
        ReductionFinder x = loop("s=1;t=s+t+u+v+w+x+y+z;u=s;v=u*2;w=a[i];");
        due(x.depends(0), 0);
        due(x.depends(1), 254);
        due(x.depends(2), 0);
        due(x.depends(3), 0);
        due(x.depends(4), 0);
        due(x.depends(5), 32);
        due(loop("z=s+t+u+v+w+x+y+z;").depends(7), 255);
        due(loop("s=s-s;").depends(0), 1);
        due(loop("s=if(z,t,u);").depends(0), 134);
        due(loop("t=z;s=t;t=1;").depends(0), 128);
        due(new ReductionFinder().depends(7), 128);
    }

    private static void nodesFrom1To200() {
        sentence("Returns the number of nodes of the end expression of a variable");
        due(loop("s=1;").nodes(0), 1);
        due(loop("s=min(1,2);").nodes(0), 3);
        due(loop("s=if(1,2,3);").nodes(0), 4);
        ReductionFinder x = loop(repeated("s=s+s;", 5) + "t=if(s,s,s)+1+2+3+4+5;");
        due(x.nodes(0), 63);
        due(x.nodes(1), 200);
        due(x.height(0), 6);
        due(x.height(1), 12);
        due(x.depends(1), 1);
    }

    private static void heights() {
        sentence("1 for a number, a start value or an element");
        due(loop("s=0;").height(0), 1);
        due(loop("s=99;").height(0), 1);
        due(loop("s=s;").height(0), 1);
        due(loop("s=t;").height(0), 1);
        due(loop("s=c[i];").height(0), 1);
        due(loop("s=((((c[i]))));").height(0), 1);
        due(new ReductionFinder().height(7), 1);
    }

    private static void heightOfGreatestOperand() {
        sentence("and otherwise 1 more than the greatest height of the operands");
        String[] flat = {"1+2", "1-2", "1*2", "1&2", "1|2", "1^2", "min(1,2)", "max(1,2)", "if(1,2,3)"};
        for (String expression : flat) {
            due(loop("s=" + expression + ";").height(0), 2);
            due(loop("t=" + expression + ";s=t+1;").height(0), 3);
            due(loop("t=" + expression + ";s=1-t;").height(0), 3);
            due(loop("t=" + expression + ";s=min(t,1);").height(0), 3);
            due(loop("t=" + expression + ";s=max(1,t);").height(0), 3);
            due(loop("t=" + expression + ";s=if(t,1,2);").height(0), 3);
            due(loop("t=" + expression + ";s=if(1,t,2);").height(0), 3);
            due(loop("t=" + expression + ";s=if(1,2,t);").height(0), 3);
            due(loop("t=" + expression + ";s=if(t+1,t,2);").height(0), 4);
        }
        due(loop("s=1" + repeated("+t", 48) + ";").height(0), 49);
        due(loop("s=1+2*3-4;").height(0), 4);
        due(loop("s=(1+2)*(3-4);").height(0), 3);
    }

    // ---- Promises 18 to 20

    private static void openInPlaceOfAnother() {
        sentence("Opens a cursor at the beginning .., in place of an earlier one. Returns the number of nodes");
        ReductionFinder x = loop("s=s+1;t=t*2-3;");
        due(x.open(1), 5);
        due(x.next(), 307);
        due(x.open(0), 3);
        due(restOfCursor(x), "300 100 1");
        due(x.open(0), 3);
        due(restOfCursor(x), "300 100 1");
        due(x.open(7), 1);
        due(restOfCursor(x), "107");
    }

    private static void openBesideTheVariables() {
        sentence("open: a call that throws leaves the earlier cursor where it is");
        for (int variable : NO_VARIABLES) {
            ReductionFinder x = loop("s=s+1;");
            dueThrow(() -> x.open(variable), INDEX);
            dueThrow(x::hasNext, STATE);
            x.open(0);
            due(x.next(), 300);
            dueThrow(() -> x.open(variable), INDEX);
            due(restOfCursor(x), "100 1");
            dueThrow(() -> x.open(variable), INDEX);
            dueThrow(x::next, NO_ELEMENT);
        }
    }

    private static void cursorOverOneNode() {
        sentence("Returns whether the cursor has a further node");
        ReductionFinder x = new ReductionFinder();
        due(x.open(7), 1);
        due(x.hasNext(), true);
        due(x.hasNext(), true);
        due(x.next(), 107);
        due(x.hasNext(), false);
        due(x.hasNext(), false);
    }

    private static void cursorAtItsEnd() {
        sentence("next: if there is no further node");
        ReductionFinder x = loop("s=s+1;");
        x.open(0);
        due(restOfCursor(x), "300 100 1");
        dueThrow(x::next, NO_ELEMENT);
        dueThrow(x::next, NO_ELEMENT);
        due(x.hasNext(), false);
        due(x.open(0), 3);
        due(x.hasNext(), true);
        due(x.next(), 300);
    }

    private static void cursorBeforeOpen() {
        sentence("if no cursor is open");
        ReductionFinder x = new ReductionFinder();
        dueThrow(x::hasNext, STATE);
        dueThrow(x::next, STATE);
        loadText(x, "s=1;");
        dueThrow(x::hasNext, STATE);
        dueThrow(x::next, STATE);
        x.save();
        x.restore();
        dueThrow(x::hasNext, STATE);
        dueThrow(x::next, STATE);
    }

    private static void cursorAfterLoadAndRestore() {
        sentence("or a call of load or restore succeeded after it was opened");
        for (int steps = 0; steps <= 3; steps++) {
            ReductionFinder x = loop("s=s+1;");
            x.save();
            ReductionFinder y = loop("s=s+1;");
            x.open(0);
            y.open(0);
            for (int step = 0; step < steps; step++) {
                x.next();
                y.next();
            }
            x.restore();
            loadText(y, "s=s+1;");
            dueThrow(x::hasNext, STATE);
            dueThrow(x::next, STATE);
            dueThrow(y::hasNext, STATE);
            dueThrow(y::next, STATE);
            x.open(0);
            y.open(0);
            due(restOfCursor(x), "300 100 1");
            due(restOfCursor(y), "300 100 1");
        }
    }

    private static void cursorAfterRefusedCalls() {
        sentence("a call of load or restore succeeded: one that throws leaves the cursor where it is");
        ReductionFinder x = loop("s=if(s,1,2)+3+4;");
        x.open(0);
        due(x.next(), 300);
        dueThrow(x::load, ARGUMENT);
        due(x.next(), 300);
        dueThrow(() -> loadText(x, repeated("s=1;", 9)), STATE);
        due(x.next(), 308);
        dueThrow(() -> loadText(x, repeated("s=s+s;", 7)), STATE);
        due(x.next(), 100);
        dueThrow(() -> restore(x), STATE);
        due(x.next(), 1);
        x.save();
        x.setMode(1);
        x.setCount(2);
        x.execute(0, 0);
        x.fill(0, 1);
        x.setInitial(0, 5);
        appendText(x, "s=1;");
        due(x.next(), 2);
        due(restOfCursor(x), "3 4");
        due(x.hasNext(), false);
    }

    private static void cursorOrder() {
        sentence("each operator or function comes before its operands, and these come from left to right");
        due(nodesOf(loop("s=1+2;"), 0), "300 1 2");
        due(nodesOf(loop("s=if(1,2,3);"), 0), "308 1 2 3");
        due(nodesOf(loop("s=if(1+2,3*4,5-6);"), 0), "308 300 1 2 301 3 4 307 5 6");
        due(nodesOf(loop("s=min(1,2)-max(3,4);"), 0), "307 305 1 2 306 3 4");
        due(nodesOf(loop("s=1-2;t=s-s;"), 1), "307 307 1 2 307 1 2");
    }

    private static void nodeCodes() {
        sentence("Returns a number from 0 to 99 for this number, 100 plus the variable .., 307 for -, and 308 for if");
        ReductionFinder x = loop("s=0+9+10+99+s+z+a[i]+c[i];t=t*(1-2)&3|4^min(5,max(6,if(7,8,9)));");
        due(nodesOf(x, 0), "300 300 300 300 300 300 300 0 9 10 99 100 107 200 202");
        due(nodesOf(x, 1), "304 303 302 301 101 307 1 2 3 4 305 5 306 6 308 7 8 9");
        for (int variable = 0; variable < 8; variable++) {
            due(nodesOf(loop("s=" + "stuvwxyz".charAt(variable) + ";"), 0), "" + (100 + variable));
        }
        due(nodesOf(loop("s=b[i];"), 0), "201");
    }

    // ---- Promise 22

    private static void exactKinds() {
        sentence("this is so for the kinds 0 and 1 ..; false for the kinds 3 and 4");
        // The kinds of s to v are 1, 3, 4 and 1, that of w is 0; min is no help for a scan.
        ReductionFinder x = loop("s=a[i]*b[i];t=min(t,1);u=u*u;v=t;");
        for (int mode = 0; mode <= 1; mode++) {
            x.setMode(mode);
            due(x.isExact(0), true);
            due(x.isExact(1), false);
            due(x.isExact(2), false);
            due(x.isExact(3), true);
            due(x.isExact(4), true);
            due(x.isExact(7), true);
        }
    }

    private static void exactReductions() {
        sentence("and for reductions in mode 0 or with the operators min and max");
        for (int operator = 0; operator < 7; operator++) {
            ReductionFinder x = loop("s=" + STEPS[operator] + ";");
            due(x.isExact(0), true);
            x.setMode(1);
            due(x.isExact(0), operator >= 5);
            x.setMode(0);
            due(x.isExact(0), true);
        }
        ReductionFinder x = loop("s=s;");
        due(x.isExact(0), true);
        x.setMode(1);
        due(x.isExact(0), false);
    }
}
