/** The boundaries that the document names for texts: "Texts" of the description, and the promises 2 to 5. */
public final class TextEdgeTests extends Checks {
    private static final String OPERATORS = "+-*&|^";
    private static final String DIGITS = "0123456789";
    private static final String VARIABLES = "stuvwxyz";
    private static final String LEAVES = DIGITS + VARIABLES + "abcmi";
    private static final String FACTORS = LEAVES + "(";

    /** A text of 100 characters without a fault. */
    private static final String FULL = "s=1" + repeated("+t", 48) + ";";

    public static void main(String[] args) {
        appendsUpToFour();
        appendsFromTheMostSignificantByte();
        appendSkipsZeros();
        appendRefusesBytes();
        appendRefusesMoreThan100();
        appendChecksBytesFirst();
        letters();
        oneStatementOrMore();
        numbers();
        operatorsFromLeftToRight();
        operatorRanks();
        parenthesesAtMostFour();
        parenthesesOfFunctions();
        fifthParenthesis();
        nextCharacters();
        nextCharactersInParentheses();
        endsTooEarly();
        emptyText();
        fullText();
        loadEmptiesTheBuffer();
        loadReplacesAllStatements();
        loadAgainAndAgain();
        loadAtMost8Statements();
        loadAtMost200Nodes();
        cursorOver200Nodes();
        loadCountsNodesAfterEachStatement();
        loadKeepsStatements();
        loadChecksTheTextFirst();
        faultOfTheLatestLoad();
        faultIsNotOfOtherCalls();
        statementsFrom0To8();
        tellAll("TextEdgeTests");
    }

    // ---- Promise 2

    private static int packed(char first, char second, char third, char fourth) {
        return first << 24 | second << 16 | third << 8 | fourth;
    }

    private static void appendsUpToFour() {
        sentence("Appends up to four characters to the buffer");
        char none = 0;
        due(new ReductionFinder().append(0), 0);
        due(new ReductionFinder().append(packed(none, none, none, 's')), 1);
        due(new ReductionFinder().append(packed(none, none, 's', '=')), 2);
        due(new ReductionFinder().append(packed(none, 's', '=', '1')), 3);
        due(new ReductionFinder().append(packed('s', '=', '1', ';')), 4);
        ReductionFinder x = new ReductionFinder();
        due(x.append(packed('s', '=', '1', '2')), 4);
        due(x.append(packed('+', '3', '4', ';')), 8);
        due(x.load(), 1);
        due(nodesOf(x, 0), "300 12 34");
    }

    private static void appendsFromTheMostSignificantByte() {
        sentence("the bytes of an int from the most significant one to the least significant one");
        ReductionFinder x = new ReductionFinder();
        x.append(0x733d313b);
        due(x.load(), 1);
        due(nodesOf(x, 0), "1");
        x.append(0x3b313d73);
        dueThrow(x::load, ARGUMENT);
        due(x.faultPosition(), 0);
    }

    private static void appendSkipsZeros() {
        sentence("bytes that are 0 are skipped");
        // Each way to leave bytes out of an int, used for a whole text of as many characters as it needs.
        String text = "s=1+2+3+4+5;";
        for (int pattern = 1; pattern < 16; pattern++) {
            ReductionFinder x = new ReductionFinder();
            int at = 0;
            while (at < text.length()) {
                int packed = 0;
                for (int place = 3; place >= 0 && at < text.length(); place--) {
                    if ((pattern >> place & 1) == 1) {
                        packed |= text.charAt(at) << 8 * place;
                        at++;
                    }
                }
                due(x.append(packed), at);
            }
            due(x.append(0), text.length());
            due(x.load(), 1);
            due(nodesOf(x, 0), "300 300 300 300 1 2 3 4 5");
        }
    }

    private static void appendRefusesBytes() {
        sentence("if a byte that is not 0 is not from 33 to 126");
        for (int place = 0; place < 4; place++) {
            for (int value = 0; value < 256; value++) {
                int alone = value << 8 * place;
                int amongOthers = alone | 0x73737373 & ~(255 << 8 * place);
                boolean good = value == 0 || value >= 33 && value <= 126;
                ReductionFinder x = new ReductionFinder();
                x.append('s');
                if (good) {
                    due(x.append(alone), value == 0 ? 1 : 2);
                    due(x.append(amongOthers), value == 0 ? 4 : 6);
                } else {
                    dueThrow(() -> x.append(alone), ARGUMENT);
                    dueThrow(() -> x.append(amongOthers), ARGUMENT);
                    due(x.append(0), 1);
                }
            }
        }
    }

    private static void appendRefusesMoreThan100() {
        sentence("if there would be more than 100 characters");
        int[] packed = {0, 0x73, 0x7373, 0x737373, 0x73737373};
        for (int there = 95; there <= 100; there++) {
            for (int more = 0; more <= 4; more++) {
                ReductionFinder x = new ReductionFinder();
                appendText(x, FULL.substring(0, there));
                int added = packed[more];
                if (there + more <= 100) {
                    due(x.append(added), there + more);
                } else {
                    dueThrow(() -> x.append(added), STATE);
                    due(x.append(0), there);
                    appendText(x, FULL.substring(there));
                    due(x.load(), 1);
                }
            }
        }
    }

    private static void appendChecksBytesFirst() {
        sentence("append: the condition that is listed first determines the exception");
        ReductionFinder x = new ReductionFinder();
        appendText(x, FULL);
        dueThrow(() -> x.append(0x20), ARGUMENT);
        dueThrow(() -> x.append(0x7f000000), ARGUMENT);
        dueThrow(() -> x.append(0x73737320), ARGUMENT);
        dueThrow(() -> x.append(-1), ARGUMENT);
        dueThrow(() -> x.append(0x73), STATE);
        due(x.append(0), 100);
        due(x.load(), 1);
    }

    // ---- The form of a text

    private static void dueFault(String text, int want) {
        ReductionFinder x = new ReductionFinder();
        appendText(x, text);
        Object answer = answerOf(x::load);
        due(answer instanceof Integer, want < 0);
        due(want < 0 || answer == ARGUMENT, true);
        due(x.faultPosition(), want);
    }

    /** Behind the beginning of a text, the given characters can continue it, and no others. */
    private static void dueNext(String beginning, String good) {
        for (char sign = 33; sign <= 126; sign++) {
            boolean goesOn = good.indexOf(sign) >= 0;
            boolean whole = goesOn && sign == ';';
            dueFault(beginning + sign, whole ? -1 : goesOn ? beginning.length() + 1 : beginning.length());
        }
    }

    private static void letters() {
        sentence("A variable is one of the letters s to z, an array one of a, b and c");
        for (int variable = 0; variable < 8; variable++) {
            String letter = VARIABLES.substring(variable, variable + 1);
            due(nodesOf(loop(letter + "=7;"), variable), "7");
            due(nodesOf(loop("s=" + letter + ";"), 0), "" + (100 + variable));
        }
        for (int array = 0; array < 3; array++) {
            due(nodesOf(loop("s=" + "abc".charAt(array) + "[i];"), 0), "" + (200 + array));
        }
        dueFault("r=1;", 0);
        dueFault("{=1;", 0);
        dueFault("s=r;", 2);
        dueFault("s={;", 2);
        dueFault("s=`[i];", 2);
        dueFault("s=d[i];", 2);
        dueFault("a[i]=1;", 0);
    }

    private static void oneStatementOrMore() {
        sentence("text = statement { statement }");
        dueFault("", 0);
        dueFault("s=1;", -1);
        dueFault("s=1;s=2;", -1);
        dueFault("s=1;;", 4);
        dueFault("s=1;t", 5);
        dueFault(";", 0);
    }

    private static void numbers() {
        sentence("A number has 1 or 2 digits and does not begin with 0, except for 0 itself");
        for (int number = 0; number <= 99; number++) {
            due(nodesOf(loop("s=" + number + ";"), 0), "" + number);
            due(nodesOf(loop("s=1+" + number + "*t;"), 0), "300 1 301 " + number + " 101");
        }
        for (int digit = 0; digit <= 9; digit++) {
            dueFault("s=0" + digit + ";", 3);
            dueFault("s=10" + digit + ";", 4);
            dueFault("s=99" + digit + ";", 4);
        }
        dueFault("s=000;", 3);
        dueFault("s=1+100;", 6);
        dueFault("s=1+01;", 5);
    }

    private static void operatorsFromLeftToRight() {
        sentence("Operators of the same repetition are applied from left to right");
        due(nodesOf(loop("s=1-2-3-4;"), 0), "307 307 307 1 2 3 4");
        due(nodesOf(loop("s=1-2+3-4;"), 0), "307 300 307 1 2 3 4");
        due(nodesOf(loop("s=1*2*3*4;"), 0), "301 301 301 1 2 3 4");
        due(nodesOf(loop("s=1&2|3^4;"), 0), "304 303 302 1 2 3 4");
        due(nodesOf(loop("s=1^2|3&4;"), 0), "302 303 304 1 2 3 4");
        due(nodesOf(loop("s=1|2&3|4;"), 0), "303 302 303 1 2 3 4");
    }

    private static void operatorRanks() {
        sentence("expression = sum { .. sum }, sum = product { .. product }, product = factor { \"*\" factor }");
        due(nodesOf(loop("s=1+2*3;"), 0), "300 1 301 2 3");
        due(nodesOf(loop("s=1*2+3;"), 0), "300 301 1 2 3");
        due(nodesOf(loop("s=1&2+3*4;"), 0), "302 1 300 2 301 3 4");
        due(nodesOf(loop("s=1*2-3^4;"), 0), "304 307 301 1 2 3 4");
        due(nodesOf(loop("s=1|2*3;"), 0), "303 1 301 2 3");
        due(nodesOf(loop("s=(1|2)*3;"), 0), "301 303 1 2 3");
        due(nodesOf(loop("s=1-(2-3);"), 0), "307 1 307 2 3");
        due(nodesOf(loop("s=min(1|2,3+4)*5;"), 0), "301 305 303 1 2 300 3 4 5");
    }

    private static void parenthesesAtMostFour() {
        sentence("At most 4 parentheses may be open at the same time");
        for (int count = 0; count <= 4; count++) {
            due(nodesOf(loop("s=" + repeated("(", count) + "7" + repeated(")", count) + ";"), 0), "7");
        }
        dueFault("s=(((((7)))));", 6);
        dueFault("s=((((((7))))));", 6);
        dueFault("s=((((7))))+((((8))))*((((9))));", -1);
        dueFault("s=((((7)+(8))));", -1);
        dueFault("s=((((7)+((8)))));", 10);
        dueFault("s=((((7))));t=((((8))));", -1);
        dueFault("s=((((7))));t=(((((8)))));", 18);
    }

    private static void parenthesesOfFunctions() {
        sentence("At most 4 parentheses .., those of functions included");
        dueFault("s=min(1,min(1,min(1,min(1,2))));", -1);
        dueFault("s=min(1,min(1,min(1,min(1,min(1,2)))));", 29);
        dueFault("s=max(max(max(max(1,2),3),4),5);", -1);
        dueFault("s=max(max(max(max(max(1,2),3),4),5),6);", 21);
        dueFault("s=if(1,2,if(1,2,if(1,2,if(1,2,3))));", -1);
        dueFault("s=if(1,2,if(1,2,if(1,2,if(1,2,if(1,2,3)))));", 32);
        dueFault("s=(min(max(if(1,2,3),4),5));", -1);
        dueFault("s=(min(max(if((1),2,3),4),5));", 14);
        dueFault("s=min(max(if((1),2,3),4),5);", -1);
        dueFault("s=min(max(if(1,(2),(3)),(4)),(5));", -1);
    }

    private static void fifthParenthesis() {
        sentence("a fifth open parenthesis cannot continue a text, while the letters of a function before it can");
        dueFault("s=((((m", 7);
        dueFault("s=((((mi", 8);
        dueFault("s=((((min", 9);
        dueFault("s=((((min(1,2)))));", 9);
        dueFault("s=((((max", 9);
        dueFault("s=((((max(1,2)))));", 9);
        dueFault("s=((((i", 7);
        dueFault("s=((((if", 8);
        dueFault("s=((((if(1,2,3)))));", 8);
        dueFault("s=((((a[i]))));", -1);
        String beginning = "s=min(1,max(2,if(3,(4";
        dueNext(beginning + "+", LEAVES);
        dueNext(beginning + "+min", "");
        dueNext(beginning + ")+min", "(");
    }

    private static void nextCharacters() {
        sentence("The fault position of a text is the index of its first character that cannot continue such a text");
        dueNext("", VARIABLES);
        dueNext("s", "=");
        dueNext("z", "=");
        dueNext("s=", FACTORS);
        dueNext("s=0", OPERATORS + ";");
        dueNext("s=1", DIGITS + OPERATORS + ";");
        dueNext("s=9", DIGITS + OPERATORS + ";");
        dueNext("s=10", OPERATORS + ";");
        dueNext("s=99", OPERATORS + ";");
        dueNext("s=t", OPERATORS + ";");
        dueNext("s=a", "[");
        dueNext("s=c", "[");
        dueNext("s=a[", "i");
        dueNext("s=a[i", "]");
        dueNext("s=a[i]", OPERATORS + ";");
        dueNext("s=m", "ia");
        dueNext("s=mi", "n");
        dueNext("s=ma", "x");
        dueNext("s=min", "(");
        dueNext("s=max", "(");
        dueNext("s=i", "f");
        dueNext("s=if", "(");
        for (int operator = 0; operator < OPERATORS.length(); operator++) {
            dueNext("s=t" + OPERATORS.charAt(operator), FACTORS);
        }
        dueNext("s=1;", VARIABLES);
        dueNext("s=1;t", "=");
        dueNext("s=1;t=", FACTORS);
    }

    private static void nextCharactersInParentheses() {
        dueNext("s=(", FACTORS);
        dueNext("s=(t", OPERATORS + ")");
        dueNext("s=(1", DIGITS + OPERATORS + ")");
        dueNext("s=(t)", OPERATORS + ";");
        for (String name : new String[] {"min", "max"}) {
            dueNext("s=" + name + "(", FACTORS);
            dueNext("s=" + name + "(t", OPERATORS + ",");
            dueNext("s=" + name + "(t,", FACTORS);
            dueNext("s=" + name + "(t,u", OPERATORS + ")");
            dueNext("s=" + name + "(t,u)", OPERATORS + ";");
        }
        dueNext("s=if(", FACTORS);
        dueNext("s=if(t", OPERATORS + ",");
        dueNext("s=if(t,", FACTORS);
        dueNext("s=if(t,u", OPERATORS + ",");
        dueNext("s=if(t,u,", FACTORS);
        dueNext("s=if(t,u,v", OPERATORS + ")");
        dueNext("s=if(t,u,v)", OPERATORS + ";");
        dueNext("s=min((t", OPERATORS + ")");
        dueNext("s=min((t)", OPERATORS + ",");
        dueNext("s=(min(t,u)", OPERATORS + ")");
        dueNext("s=if(min(t,u),v", OPERATORS + ",");
        dueNext("s=(((", FACTORS);
        dueNext("s=((((", LEAVES);
        dueNext("s=((((t", OPERATORS + ")");
        dueNext("s=((((t)", OPERATORS + ")");
        dueNext("s=((((t)+", FACTORS);
        dueNext("s=((((t))))", OPERATORS + ";");
        dueNext("s=((((min", "");
        dueNext("s=((((max", "");
        dueNext("s=((((if", "");
    }

    private static void endsTooEarly() {
        sentence("or the length of the text if it ends too early");
        String text = "s=min(a[i],(t+12))*0;z=if(s-u,max(1,2&v),c[i]|((3)));";
        for (int length = 0; length <= text.length(); length++) {
            String beginning = text.substring(0, length);
            dueFault(beginning, beginning.endsWith(";") ? -1 : length);
        }
    }

    private static void emptyText() {
        sentence("an empty buffer: the text ends too early, its length is 0");
        ReductionFinder x = new ReductionFinder();
        dueThrow(x::load, ARGUMENT);
        due(x.faultPosition(), 0);
        due(x.append(0), 0);
        dueThrow(x::load, ARGUMENT);
        due(x.faultPosition(), 0);
        due(x.statements(), 0);
    }

    private static void fullText() {
        sentence("a text of 100 characters");
        due(FULL.length(), 100);
        dueFault(FULL, -1);
        due(loop(FULL).nodes(0), 97);
        dueFault(FULL.substring(0, 99) + "t", 99);
        dueFault(FULL.substring(0, 99) + ",", 99);
        dueFault(FULL.substring(0, 99) + "+", 100);
        dueFault(FULL.substring(0, 98) + "+;", 98);
        dueFault(FULL.substring(0, 99), 99);
        dueFault("r" + FULL.substring(1), 0);
    }

    // ---- Promise 3

    private static String doubled(int times) {
        return repeated("s=s+s;", times);
    }

    private static void loadEmptiesTheBuffer() {
        sentence("The buffer is emptied, also if an exception is thrown");
        String[] texts = {"s=1;", "s=1", repeated("s=1;", 9), doubled(7)};
        Object[] answers = {1, ARGUMENT, STATE, STATE};
        for (int k = 0; k < texts.length; k++) {
            ReductionFinder x = new ReductionFinder();
            appendText(x, texts[k]);
            due(answerOf(x::load), answers[k]);
            due(x.append(0), 0);
            dueThrow(x::load, ARGUMENT);
            due(x.faultPosition(), 0);
            due(loadText(x, "t=2;"), 1);
            due(nodesOf(x, 1), "2");
            due(nodesOf(x, 0), "100");
        }
    }

    private static void loadReplacesAllStatements() {
        sentence("the statements described replace all statements of the loop");
        ReductionFinder x = loop("s=1;t=t+1;u=u*u;v=3;w=4;x=5;y=6;z=7;");
        due(loadText(x, "t=8;"), 1);
        due(x.statements(), 1);
        due(nodesOf(x, 1), "8");
        for (int variable = 0; variable < 8; variable++) {
            due(x.kind(variable), variable == 1 ? 1 : 0);
            due(x.nodes(variable), 1);
            due(x.depends(variable), variable == 1 ? 0 : 1 << variable);
        }
        due(x.isParallel(), true);
        x.setCount(1);
        due(x.execute(0, 0), 1);
        due(x.cost(0, 0), 0);
    }

    private static void loadAgainAndAgain() {
        sentence("replace all statements: nothing is left of any text that was loaded before");
        for (int saves = 0; saves <= 1; saves++) {
            ReductionFinder x = new ReductionFinder();
            x.setCount(1);
            for (int round = 0; round < 4; round++) {
                due(loadText(x, "s=s*s&t;t=t+1;u=u+1;v=2;"), 4);
                due(x.isParallel(), false);
                if (saves == 1) {
                    x.save();
                }
                due(loadText(x, "s=s*s^t;w=w+2;"), 2);
                due(loadText(x, "x=x+3;"), 1);
                for (int variable = 0; variable < 8; variable++) {
                    due(x.kind(variable), variable == 5 ? 2 : 0);
                }
                due(x.isParallel(), true);
                due(x.cost(0, 0), 1);
                due(x.cost(1, 1), 2);
                x.setMode(1);
                due(x.execute(0, 0), 1);
                x.setMode(0);
            }
        }
    }

    private static void loadAtMost8Statements() {
        sentence("if there are more than 8 statements");
        for (int count = 1; count <= 8; count++) {
            due(loadText(new ReductionFinder(), repeated("s=1;", count)), count);
        }
        for (int count = 9; count <= 25; count++) {
            ReductionFinder x = loop("s=1;t=2;");
            String text = repeated("u=3;", count);
            dueThrow(() -> loadText(x, text), STATE);
            due(x.statements(), 2);
            due(x.faultPosition(), -1);
        }
    }

    private static void loadAtMost200Nodes() {
        sentence("after some statement the expression of a variable then would have more than 200 nodes");
        // s has 63 nodes after five doublings, and 127 after six.
        ReductionFinder x = loop(doubled(5) + "t=s+s+s+1+2+3+4;");
        due(x.nodes(0), 63);
        due(x.nodes(1), 199);
        dueThrow(() -> loadText(x, doubled(5) + "t=s+s+s+1+2+3+4+5;"), STATE);
        due(x.nodes(1), 199);
        due(loadText(x, doubled(5) + "t=if(s,s,s)+1+2+3+4+5;"), 6);
        due(x.nodes(1), 200);
        dueThrow(() -> loadText(x, doubled(5) + "t=if(s,s,s)+1+2+3+4+5+6;"), STATE);
        due(loadText(x, doubled(6)), 6);
        due(x.nodes(0), 127);
        dueThrow(() -> loadText(x, doubled(7)), STATE);
        dueThrow(() -> loadText(x, doubled(8)), STATE);
        dueThrow(() -> loadText(x, doubled(6) + "t=s" + repeated("+s", 30) + ";"), STATE);
        due(x.nodes(0), 127);
        due(x.faultPosition(), -1);
    }

    private static void cursorOver200Nodes() {
        sentence("an end expression of 200 nodes, gone through to its end");
        ReductionFinder x = loop(doubled(5) + "t=if(s,s,s)+1+2+3+4+5;");
        due(x.open(1), 200);
        for (int at = 0; at < 200; at++) {
            due(x.hasNext(), true);
            int code = x.next();
            due(code, at < 5 ? 300 : at == 5 ? 308 : at < 195 ? code : at - 194);
        }
        due(x.hasNext(), false);
        dueThrow(x::next, NO_ELEMENT);
    }

    private static void loadCountsNodesAfterEachStatement() {
        sentence("after some statement .. then: a variable that is assigned again later counts, too");
        ReductionFinder x = loop("z=1;");
        dueThrow(() -> loadText(x, doubled(7) + "s=1;"), STATE);
        dueThrow(() -> loadText(x, doubled(5) + "t=s+s+s+1+2+3+4+5;t=1;"), STATE);
        due(x.statements(), 1);
        due(loadText(x, doubled(5) + "t=if(s,s,s)+1+2+3+4+5;t=1;"), 7);
        due(x.nodes(1), 1);
        due(loadText(x, doubled(6) + "s=1;s=s+s;"), 8);
        due(x.nodes(0), 3);
        dueThrow(() -> loadText(x, doubled(5) + "t=if(s,s,s)+1+2+3+4+5;u=t+1;"), STATE);
        due(loadText(x, doubled(5) + "t=if(s,s,s)+1+2+3+4+5;u=t;"), 7);
        due(x.nodes(2), 200);
    }

    private static void loadKeepsStatements() {
        sentence("then the statements stay as they are");
        String[] faulty = {"s=1;t=2;u", repeated("s=1;", 9), doubled(7)};
        for (String text : faulty) {
            ReductionFinder x = loop("s=s+a[i];t=2;", 0, 2);
            x.setElement(0, 1, 9);
            x.execute(3, 0);
            x.open(0);
            x.next();
            appendText(x, text);
            due(answerOf(x::load) instanceof Class, true);
            due(restOfCursor(x), "100 200");
            due(x.result(0), 9);
            due(x.statements(), 2);
            due(x.kind(0), 2);
            due(nodesOf(x, 0), "300 100 200");
            due(nodesOf(x, 1), "2");
            due(x.nodes(2), 1);
            due(x.cost(0, 0), 2);
        }
    }

    private static void loadChecksTheTextFirst() {
        sentence("load: the condition that is listed first determines the exception");
        ReductionFinder x = new ReductionFinder();
        dueThrow(() -> loadText(x, repeated("s=1;", 9) + "s"), ARGUMENT);
        due(x.faultPosition(), 37);
        dueThrow(() -> loadText(x, repeated("s=1;", 20) + "s=1;r=1;"), ARGUMENT);
        due(x.faultPosition(), 84);
        dueThrow(() -> loadText(x, doubled(7) + "s=01;"), ARGUMENT);
        due(x.faultPosition(), 45);
        dueThrow(() -> loadText(x, doubled(7) + "s=0"), ARGUMENT);
        due(x.faultPosition(), 45);
    }

    // ---- Promises 4 and 5

    private static void faultOfTheLatestLoad() {
        sentence("Returns the fault position of the text of the latest call of load");
        ReductionFinder x = new ReductionFinder();
        due(x.faultPosition(), -1);
        dueThrow(() -> loadText(x, "s=1;t="), ARGUMENT);
        due(x.faultPosition(), 6);
        dueThrow(() -> loadText(x, "s=)"), ARGUMENT);
        due(x.faultPosition(), 2);
        due(loadText(x, "s=1;"), 1);
        due(x.faultPosition(), -1);
        dueThrow(() -> loadText(x, "s+"), ARGUMENT);
        due(x.faultPosition(), 1);
        dueThrow(() -> loadText(x, repeated("s=1;", 9)), STATE);
        due(x.faultPosition(), -1);
        dueThrow(() -> loadText(x, "s"), ARGUMENT);
        dueThrow(() -> loadText(x, doubled(7)), STATE);
        due(x.faultPosition(), -1);
    }

    private static void faultIsNotOfOtherCalls() {
        sentence("or -1 if the text had no fault or load has not been called");
        ReductionFinder x = new ReductionFinder();
        appendText(x, "r");
        due(x.faultPosition(), -1);
        x.save();
        dueThrow(x::load, ARGUMENT);
        due(x.faultPosition(), 0);
        appendText(x, "s=1;");
        due(x.faultPosition(), 0);
        x.restore();
        due(x.faultPosition(), 0);
        due(x.load(), 1);
        due(x.faultPosition(), -1);
        appendText(x, "r");
        due(x.faultPosition(), -1);
    }

    private static void statementsFrom0To8() {
        sentence("Returns the number of statements");
        ReductionFinder x = new ReductionFinder();
        due(x.statements(), 0);
        for (int count = 8; count >= 1; count--) {
            appendText(x, repeated("s=1;", count));
            due(x.statements(), count == 8 ? 0 : count + 1);
            x.load();
            due(x.statements(), count);
        }
    }
}
