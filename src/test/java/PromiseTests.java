/** Tests of the promises one by one, in the order of the document, with answers worked out by hand. */
public final class PromiseTests extends Checks {
    public static void main(String[] args) {
        newObject();
        append();
        load();
        loadLimits();
        faultPosition();
        faultPositionOfParentheses();
        statements();
        setMode();
        setCount();
        setElement();
        fill();
        element();
        setInitial();
        kind();
        operator();
        terms();
        depends();
        nodes();
        height();
        open();
        hasNext();
        next();
        isParallel();
        isExact();
        executeSequence();
        executeParts();
        executeOthers();
        executeFloats();
        executeWrong();
        result();
        resultFloat();
        difference();
        cost();
        cheapest();
        save();
        restore();
        tellAll("PromiseTests");
    }

    private static void newObject() {
        sentence("promise 1");
        ReductionFinder x = new ReductionFinder();
        due(x.statements(), 0);
        due(x.faultPosition(), -1);
        due(x.isParallel(), true);
        due(x.setMode(0), 0);
        due(x.setCount(0), 0);
        for (int array = 0; array < 3; array++) {
            for (int index = 0; index < 16; index++) {
                due(x.element(array, index), 0);
            }
        }
        for (int variable = 0; variable < 8; variable++) {
            due(x.setInitial(variable, 0), 0);
            due(x.kind(variable), 0);
            due(x.depends(variable), 1 << variable);
            due(nodesOf(x, variable), "" + (100 + variable));
        }
    }

    private static void append() {
        sentence("promise 2");
        ReductionFinder x = new ReductionFinder();
        due(x.append(0), 0);
        due(x.append(('s' << 24) | ('=' << 16) | ('1' << 8) | '2'), 4);
        due(x.append('0' << 16), 5);
        due(x.append((';' << 24) | 't'), 7);
        dueThrow(x::load, ARGUMENT);
        due(x.faultPosition(), 4);
        for (int bad : new int[] {1, 32, 127, 128, 255}) {
            for (int shift = 0; shift < 32; shift += 8) {
                int packed = bad << shift;
                dueThrow(() -> x.append(packed), ARGUMENT);
                int withGoodByte = packed | ('s' << (24 - shift));
                dueThrow(() -> x.append(withGoodByte), ARGUMENT);
            }
        }
        due(x.append('!'), 1);
        due(x.append('~'), 2);
        for (int at = 2; at < 98; at++) {
            x.append('s');
        }
        dueThrow(() -> x.append(0x73737300), STATE);
        dueThrow(() -> x.append(0x73737320), ARGUMENT);
        due(x.append(0x73000073), 100);
        due(x.append(0), 100);
        dueThrow(() -> x.append(0x73), STATE);
        dueThrow(() -> x.append(0x20), ARGUMENT);
        dueThrow(x::load, ARGUMENT);
        due(x.append(0x73), 1);
    }

    private static void load() {
        sentence("promise 3");
        ReductionFinder x = new ReductionFinder();
        dueThrow(x::load, ARGUMENT);
        due(loadText(x, "s=1;"), 1);
        due(x.kind(0), 1);
        due(loadText(x, "t=t+1;u=2;"), 2);
        due(x.kind(0), 0);
        due(x.kind(1), 2);
        dueThrow(() -> loadText(x, "t=;"), ARGUMENT);
        due(x.append('s'), 1);
        dueThrow(x::load, ARGUMENT);
        dueThrow(x::load, ARGUMENT);
        due(x.faultPosition(), 0);
        due(x.statements(), 2);
        due(x.kind(1), 2);
        due(loadText(x, "s=s&t|u^v+w-x*y;"), 1);
        due(nodesOf(x, 0), "304 303 302 100 101 102 307 300 103 104 301 105 106");
        due(loadText(x, "s=1-2-3;"), 1);
        due(nodesOf(x, 0), "307 307 1 2 3");
        due(loadText(x, "s=1-(2-3);"), 1);
        due(nodesOf(x, 0), "307 1 307 2 3");
        due(loadText(x, "s=s*t*(u+0);"), 1);
        due(nodesOf(x, 0), "301 301 100 101 300 102 0");
        due(loadText(x, "s=if(a[i],min(b[i],10),max(c[i],99));"), 1);
        due(nodesOf(x, 0), "308 200 305 201 10 306 202 99");
        due(loadText(x, "s=t;t=s+1;s=s*t;"), 3);
        due(nodesOf(x, 0), "301 101 300 101 1");
        due(nodesOf(x, 1), "300 101 1");
    }

    private static void loadLimits() {
        ReductionFinder x = loop("z=z+1;");
        due(loadText(x, "s=1;t=1;u=1;v=1;w=1;x=1;y=1;z=1;"), 8);
        dueThrow(() -> loadText(x, "s=1;t=1;u=1;v=1;w=1;x=1;y=1;z=1;s=1;"), STATE);
        due(x.faultPosition(), -1);
        due(x.append('s'), 1);
        dueThrow(() -> loadText(x, "=1;t=1;u=1;v=1;w=1;x=1;y=1;z=1;s=1;s"), ARGUMENT);
        due(x.statements(), 8);
        String double6 = "s=s+s;s=s+s;s=s+s;s=s+s;s=s+s;s=s+s;";
        due(loadText(x, double6), 6);
        due(x.nodes(0), 127);
        due(x.height(0), 7);
        dueThrow(() -> loadText(x, double6 + "s=s+s;"), STATE);
        dueThrow(() -> loadText(x, double6 + "s=s+s;s=1;"), STATE);
        due(x.faultPosition(), -1);
        due(x.nodes(0), 127);
        due(x.statements(), 6);
        // s has 63 nodes: three of them, an if and five more terms are 200 nodes.
        String nodes63 = "s=s+s;s=s+s;s=s+s;s=s+s;s=s+s;";
        due(loadText(x, nodes63 + "t=if(s,s,s)+1+1+1+1+1;"), 6);
        due(x.nodes(1), 200);
        dueThrow(() -> loadText(x, nodes63 + "t=if(s,s,s)+1+1+1+1+1+1;"), STATE);
        dueThrow(() -> loadText(x, nodes63 + "t=s+s+s+1+1+1+1+1;"), STATE);
        due(loadText(x, nodes63 + "t=s+s+s+1+1+1+1;"), 6);
        due(x.nodes(1), 199);
        due(x.height(1), 12);
    }

    private static void dueFault(String text, int want) {
        ReductionFinder x = new ReductionFinder();
        appendText(x, text);
        if (want < 0) {
            x.load();
        } else {
            dueThrow(x::load, ARGUMENT);
        }
        due(x.faultPosition(), want);
    }

    private static void faultPosition() {
        sentence("promise 4");
        dueFault("s=1;", -1);
        dueFault("s", 1);
        dueFault("s=", 2);
        dueFault("s=1", 3);
        dueFault("r=1;", 0);
        dueFault("a[i]=1;", 0);
        dueFault("s1;", 1);
        dueFault("s==1;", 2);
        dueFault("s=;", 2);
        dueFault("s=-1;", 2);
        dueFault("s=+1;", 2);
        dueFault("s=00;", 3);
        dueFault("s=07;", 3);
        dueFault("s=0;", -1);
        dueFault("s=100;", 4);
        dueFault("s=99;", -1);
        dueFault("s=1;;", 4);
        dueFault("s=1;t", 5);
        dueFault("s=s_t;", 3);
        dueFault("s=st;", 3);
        dueFault("s=d[i];", 2);
        dueFault("s=a;", 3);
        dueFault("s=a[1];", 4);
        dueFault("s=a[i;", 5);
        dueFault("s=a[i", 5);
        dueFault("s=a[i][i];", 6);
        dueFault("s=1++2;", 4);
        dueFault("s=1*;", 4);
        dueFault("s=1/2;", 3);
        dueFault("s=mi(1,2);", 4);
        dueFault("s=man(1,2);", 4);
        dueFault("s=min1,2);", 5);
        dueFault("s=min(1);", 7);
        dueFault("s=min(1,2,3);", 9);
        dueFault("s=max(1,2;", 9);
        dueFault("s=if(1,2);", 8);
        dueFault("s=if(1,2,3,4);", 10);
        dueFault("s=if(1,2,3);", -1);
        dueFault("s=ia;", 3);
        dueFault("s=m", 3);
        dueFault("s=(1,2);", 4);
        dueFault("s=();", 3);
        dueFault("s=1);", 3);
        dueFault("s=1,2;", 3);
        dueFault("s=(1;", 4);
        dueFault("S=1;", 0);
    }

    private static void faultPositionOfParentheses() {
        dueFault("s=((((1))));", -1);
        dueFault("s=(((((1)))));", 6);
        dueFault("s=((((1))))+((((2))));", -1);
        dueFault("s=min(max(if((1),2,3),4),5);", -1);
        dueFault("s=min(max(if((min(1,2)),2,3),4),5);", 17);
        dueFault("s=((((min", 9);
        dueFault("s=((((minx", 9);
        dueFault("s=((((mix", 8);
        dueFault("s=((((if(1,2,3)))));", 8);
        dueFault("s=((((a[i]))));", -1);
        dueFault("s=min(1,min(1,min(1,min(1,2))));", -1);
        dueFault("s=min(1,min(1,min(1,min(1,min(1,2)))));", 29);
        ReductionFinder x = loop("s=1;");
        dueThrow(() -> loadText(x, "s=2"), ARGUMENT);
        due(x.faultPosition(), 3);
        x.save();
        x.restore();
        due(x.faultPosition(), 3);
        loadText(x, "s=2;");
        due(x.faultPosition(), -1);
    }

    private static void statements() {
        sentence("promise 5");
        ReductionFinder x = loop("s=1;s=2;s=3;");
        due(x.statements(), 3);
        dueThrow(() -> loadText(x, "s=1;t"), ARGUMENT);
        due(x.statements(), 3);
        loadText(x, "s=1;");
        due(x.statements(), 1);
    }

    private static void setMode() {
        sentence("promise 6");
        ReductionFinder x = new ReductionFinder();
        due(x.setMode(1), 0);
        dueThrow(() -> x.setMode(2), ARGUMENT);
        dueThrow(() -> x.setMode(-1), ARGUMENT);
        due(x.setMode(1), 1);
        due(x.setMode(0), 1);
        due(x.setMode(0), 0);
    }

    private static void setCount() {
        sentence("promise 7");
        ReductionFinder x = new ReductionFinder();
        due(x.setCount(16), 0);
        dueThrow(() -> x.setCount(17), ARGUMENT);
        dueThrow(() -> x.setCount(-1), ARGUMENT);
        dueThrow(() -> x.setCount(Integer.MIN_VALUE), ARGUMENT);
        due(x.setCount(3), 16);
        due(x.setCount(0), 3);
    }

    private static void setElement() {
        sentence("promise 8");
        ReductionFinder x = new ReductionFinder();
        due(x.setElement(2, 15, 99), 0);
        due(x.setElement(2, 15, -99), 99);
        dueThrow(() -> x.setElement(2, 15, 100), ARGUMENT);
        dueThrow(() -> x.setElement(2, 15, -100), ARGUMENT);
        dueThrow(() -> x.setElement(3, 0, 0), INDEX);
        dueThrow(() -> x.setElement(-1, 0, 0), INDEX);
        dueThrow(() -> x.setElement(0, 16, 0), INDEX);
        dueThrow(() -> x.setElement(0, -1, 0), INDEX);
        dueThrow(() -> x.setElement(3, 0, 100), INDEX);
        dueThrow(() -> x.setElement(0, Integer.MIN_VALUE, -100), INDEX);
        due(x.setElement(2, 15, 1), -99);
        due(x.setElement(1, 15, 1), 0);
    }

    private static void fill() {
        sentence("promise 9");
        ReductionFinder x = new ReductionFinder();
        // The first draw from 0 is 1013904223, of which 3960563 are left; 3960563 % 199 is 65.
        int sum = x.fill(1, 0);
        due(x.element(1, 0), 3960563 % 199 - 99);
        int z = 1013904223 * 1664525 + 1013904223;
        due(x.element(1, 1), (z >>> 8) % 199 - 99);
        int added = 0;
        for (int index = 0; index < 16; index++) {
            added += x.element(1, index);
            due(x.element(0, index), 0);
        }
        due(sum, added);
        due(x.fill(1, 5), -298);
        due(x.element(1, 15), -87);
        dueThrow(() -> x.fill(3, 1), INDEX);
        dueThrow(() -> x.fill(-1, 1), INDEX);
        for (int seed : new int[] {-1, Integer.MIN_VALUE, Integer.MAX_VALUE}) {
            x.fill(2, seed);
            for (int index = 0; index < 16; index++) {
                due(x.element(2, index) >= -99 && x.element(2, index) <= 99, true);
            }
        }
    }

    private static void element() {
        sentence("promise 10");
        ReductionFinder x = new ReductionFinder();
        x.setElement(0, 3, 7);
        due(x.element(0, 3), 7);
        due(x.element(0, 4), 0);
        due(x.element(1, 3), 0);
        dueThrow(() -> x.element(3, 0), INDEX);
        dueThrow(() -> x.element(-1, 0), INDEX);
        dueThrow(() -> x.element(0, 16), INDEX);
        dueThrow(() -> x.element(0, -1), INDEX);
    }

    private static void setInitial() {
        sentence("promise 11");
        ReductionFinder x = new ReductionFinder();
        due(x.setInitial(7, 999), 0);
        due(x.setInitial(7, -999), 999);
        dueThrow(() -> x.setInitial(7, 1000), ARGUMENT);
        dueThrow(() -> x.setInitial(7, -1000), ARGUMENT);
        dueThrow(() -> x.setInitial(8, 0), INDEX);
        dueThrow(() -> x.setInitial(-1, 0), INDEX);
        dueThrow(() -> x.setInitial(8, 1000), INDEX);
        due(x.setInitial(7, 0), -999);
        due(x.setInitial(6, 0), 0);
    }

    private static void dueKind(String text, int variable, int want) {
        due(loop(text).kind(variable), want);
    }

    private static void kind() {
        sentence("promise 12");
        dueKind("s=1;", 1, 0);
        dueKind("s=t;", 1, 0);
        dueKind("s=1;", 0, 1);
        dueKind("s=t;", 0, 1);
        dueKind("s=1;t=s;", 0, 1);
        dueKind("s=s+1;s=2;", 0, 1);
        dueKind("s=s;", 0, 2);
        dueKind("s=s+t;", 0, 2);
        dueKind("s=s+t;t=1;", 0, 2);
        dueKind("s=s+t;t=1;", 1, 4);
        dueKind("t=1;s=s+t;", 1, 1);
        dueKind("t=1;s=s+t;", 0, 2);
        dueKind("t=s;s=s+1;", 0, 3);
        dueKind("s=s+1;t=s;", 0, 3);
        dueKind("t=t+s;s=s+1;", 0, 3);
        dueKind("t=t+s;s=s+1;", 1, 2);
        dueKind("t=s;s=1;", 0, 4);
        dueKind("s=s*s;", 0, 4);
        dueKind("s=s-s;", 0, 4);
        dueKind("s=1-s;", 0, 4);
        dueKind("s=s+1*s;", 0, 4);
        dueKind("s=2*s+1;", 0, 4);
        dueKind("s=if(s,s,s);", 0, 4);
        dueKind("s=if(1,s,2);", 0, 4);
        dueKind("s=if(1,s+1,s*1);", 0, 4);
        dueKind("s=if(1,s+1,s-1);", 0, 2);
        dueKind("s=if(1,s,s*2);", 0, 2);
        dueKind("s=min(s,t);", 0, 2);
        dueKind("s=min(max(s,1),2);", 0, 4);
        dueKind("s=t;t=s;", 0, 1);
        dueKind("s=t;t=s;", 1, 3);
        ReductionFinder x = loop("s=1;");
        dueThrow(() -> x.kind(8), INDEX);
        dueThrow(() -> x.kind(-1), INDEX);
    }

    private static void operator() {
        sentence("promise 13");
        String[] steps = {"s+1", "1*s", "s&1", "1|s", "s^1", "min(1,s)", "max(s,1)"};
        for (int operator = 0; operator < 7; operator++) {
            due(loop("s=" + steps[operator] + ";").operator(0), operator);
            due(loop("s=if(a[i],s," + steps[operator] + ");").operator(0), operator);
            due(loop("s=" + steps[operator] + ";t=s;").operator(0), operator);
        }
        due(loop("s=s-1;").operator(0), 0);
        due(loop("s=s;").operator(0), 0);
        due(loop("s=if(1,s,s);").operator(0), 0);
        ReductionFinder x = loop("s=1;t=t*t;");
        dueThrow(() -> x.operator(0), UNSUPPORTED);
        dueThrow(() -> x.operator(1), UNSUPPORTED);
        dueThrow(() -> x.operator(2), UNSUPPORTED);
        dueThrow(() -> x.operator(8), INDEX);
        dueThrow(() -> x.operator(-1), INDEX);
    }

    private static void terms() {
        sentence("promise 14");
        due(loop("s=s;").terms(0), 0);
        due(loop("s=s+1;").terms(0), 1);
        due(loop("s=s+1+t*u;").terms(0), 2);
        due(loop("s=1+s-2+t;").terms(0), 3);
        due(loop("s=(1+2)+s;").terms(0), 1);
        due(loop("s=s+1;s=2+s;").terms(0), 2);
        due(loop("s=if(1,s+1,s-1-1)+4;").terms(0), 4);
        due(loop("s=if(1,s,if(2,s*3,s*4*5));").terms(0), 3);
        due(loop("s=min(min(1,s),a[i]);").terms(0), 2);
        due(loop("s=s+1;t=s;").terms(0), 1);
        ReductionFinder x = loop("s=1;t=t*t;");
        dueThrow(() -> x.terms(0), UNSUPPORTED);
        dueThrow(() -> x.terms(1), UNSUPPORTED);
        dueThrow(() -> x.terms(2), UNSUPPORTED);
        dueThrow(() -> x.terms(8), INDEX);
        dueThrow(() -> x.terms(-1), INDEX);
    }

    private static void depends() {
        sentence("promise 15");
        ReductionFinder x = loop("s=t+z;u=s*u;t=1;v=t;");
        due(x.depends(0), 130);
        due(x.depends(2), 134);
        due(x.depends(1), 0);
        due(x.depends(3), 0);
        due(x.depends(7), 128);
        dueThrow(() -> x.depends(8), INDEX);
        dueThrow(() -> x.depends(-1), INDEX);
    }

    private static void nodes() {
        sentence("promise 16");
        ReductionFinder x = loop("s=t+1;u=s*s;v=if(u,1,a[i]);s=5;");
        due(x.nodes(0), 1);
        due(x.nodes(1), 1);
        due(x.nodes(2), 7);
        due(x.nodes(3), 10);
        dueThrow(() -> x.nodes(8), INDEX);
        dueThrow(() -> x.nodes(-1), INDEX);
    }

    private static void height() {
        sentence("promise 17");
        ReductionFinder x = loop("s=t+1;u=s*s;v=if(1,1,u);w=if(u,1,1);x=if(1,u,1);y=1-(2-(3-4));");
        due(x.height(0), 2);
        due(x.height(1), 1);
        due(x.height(2), 3);
        due(x.height(3), 4);
        due(x.height(4), 4);
        due(x.height(5), 4);
        due(x.height(6), 4);
        dueThrow(() -> x.height(8), INDEX);
        dueThrow(() -> x.height(-1), INDEX);
    }

    private static void open() {
        sentence("promise 18");
        ReductionFinder x = loop("s=s+1;t=t*2-3;");
        due(x.open(1), 5);
        due(x.next(), 307);
        due(x.open(0), 3);
        due(x.next(), 300);
        dueThrow(() -> x.open(8), INDEX);
        dueThrow(() -> x.open(-1), INDEX);
        due(x.next(), 100);
        due(x.open(0), 3);
        due(x.next(), 300);
    }

    private static void hasNext() {
        sentence("promise 19");
        ReductionFinder x = loop("s=s+1;");
        dueThrow(x::hasNext, STATE);
        x.open(1);
        due(x.hasNext(), true);
        due(x.hasNext(), true);
        x.next();
        due(x.hasNext(), false);
        x.save();
        dueThrow(() -> loadText(x, "s=1"), ARGUMENT);
        x.execute(0, 0);
        due(x.hasNext(), false);
        x.restore();
        dueThrow(x::hasNext, STATE);
        x.open(0);
        loadText(x, "s=1;");
        dueThrow(x::hasNext, STATE);
    }

    private static void next() {
        sentence("promise 20");
        ReductionFinder x = loop("s=if(z,min(a[i],0)+max(b[i],99),c[i]*s-(t&u|v^w));");
        dueThrow(x::next, STATE);
        due(nodesOf(x, 0), "308 107 300 305 200 0 306 201 99 307 301 202 100 304 303 302 101 102 103 104");
        dueThrow(x::next, NO_ELEMENT);
        dueThrow(x::next, NO_ELEMENT);
        x.open(7);
        due(x.next(), 107);
        x.save();
        x.open(7);
        x.restore();
        dueThrow(x::next, STATE);
        x.open(7);
        loadText(x, "s=1;");
        dueThrow(x::next, STATE);
    }

    private static void isParallel() {
        sentence("promise 21");
        due(new ReductionFinder().isParallel(), true);
        due(loop("s=1;t=t+s;").isParallel(), true);
        due(loop("s=s+1;t=s;").isParallel(), false);
        due(loop("s=s*s;").isParallel(), false);
        due(loop("t=1;s=s+1;u=u+t;").isParallel(), true);
    }

    private static void isExact() {
        sentence("promise 22");
        ReductionFinder x = loop("s=1;t=t+1;u=min(u,2);v=max(v,3);w=w*w;x=x+1;y=x;");
        boolean[][] want = {
            {true, true, true, true, false, false, true, true},
            {true, false, true, true, false, false, true, true}};
        for (int mode = 0; mode < 2; mode++) {
            x.setMode(mode);
            for (int variable = 0; variable < 8; variable++) {
                due(x.isExact(variable), want[mode][variable]);
            }
        }
        ReductionFinder y = loop("s=s&1;");
        due(y.isExact(0), true);
        y.setMode(1);
        due(y.isExact(0), false);
        dueThrow(() -> x.isExact(8), INDEX);
        dueThrow(() -> x.isExact(-1), INDEX);
    }

    private static void executeSequence() {
        sentence("promise 23, order 0");
        ReductionFinder x = loop("s=s*3+a[i];t=s-t;u=if(a[i],u,u^7);");
        setElements(x, 0, 1, 0, -2, 5);
        x.setInitial(0, 2);
        x.setInitial(1, 10);
        x.setInitial(2, 4);
        due(x.execute(0, 99), 0);
        x.setCount(3);
        // s: 2, 7, 21, 61; t: 10, -3, 24, 37; u: 4, 4, 3, 4
        due(x.execute(0, -1), 2);
        due(x.result(0), 61);
        due(x.result(1), 37);
        due(x.result(2), 4);
        due(x.result(3), 0);
        ReductionFinder big = loop("s=s*s;t=t-99*99*99*99*99;");
        big.setCount(6);
        big.setInitial(0, 3);
        due(big.execute(0, 0), 2);
        int square = 3;
        for (int i = 0; i < 6; i++) {
            square *= square;
        }
        due(big.result(0), square);
        due(big.result(1), -6 * (99 * 99 * 99 * 99 * 99));
    }

    private static void executeParts() {
        sentence("promise 23, orders 1 to 3");
        // Floats tell the orders apart: 1.0e30f as a limit loses what comes after it.
        String grown = "99*99*99*99*99*99*99*99*99*99*99*99*99*99*99*99";
        ReductionFinder x = loop("t=" + grown + ";s=s+if(a[i],if(a[i]-1,0-t,t),b[i]);");
        x.setMode(1);
        x.setCount(5);
        x.setInitial(0, 9);
        setElements(x, 0, 1, 0, 2, 0, 0);
        setElements(x, 1, 0, 3, 0, 5, 7);
        // The terms are 1e30, 3, -1e30, 5, 7.
        due(x.execute(0, 0), 2);
        due(x.resultFloat(0), 12.0f);
        due(x.resultFloat(1), 1.0e30f);
        // Lanes: 1e30 - 1e30 + 7 and 3 + 5.
        due(x.execute(1, 2), 2);
        due(x.resultFloat(0), 24.0f);
        // Lanes of 4: 1e30 + 7, 3, -1e30, 5: the 9, the 7 and the 3 are lost.
        x.execute(1, 4);
        due(x.resultFloat(0), 5.0f);
        // Blocks of 3: 1e30 + 3 - 1e30, and 5 + 7.
        x.execute(2, 2);
        due(x.resultFloat(0), 21.0f);
        // Blocks of 2: 1e30 + 3, -1e30 + 5, 7.
        x.execute(2, 3);
        due(x.resultFloat(0), 7.0f);
        // Blocks of 2 again, with an empty fourth one.
        x.execute(2, 4);
        due(x.resultFloat(0), 7.0f);
        // Blocks of 1 with empty ones behind them, from left to right behind the initial value.
        x.execute(2, 8);
        due(x.resultFloat(0), 12.0f);
        x.execute(1, 8);
        due(x.resultFloat(0), 12.0f);
        x.execute(1, 1);
        due(x.resultFloat(0), 21.0f);
        // Tree: (1e30 + 3) + (-1e30 + 5), and 7.
        x.execute(3, 0);
        due(x.resultFloat(0), 16.0f);
    }

    private static void dueSameInAllOrders(int n) {
        ReductionFinder x = loop("s=s+a[i];t=t*b[i];u=u&a[i];v=v|a[i];w=w^b[i];x=min(x,a[i]);y=max(b[i],y);z=a[i]-b[i];");
        x.fill(0, 11);
        x.fill(1, 12);
        x.setCount(n);
        for (int variable = 0; variable < 8; variable++) {
            x.setInitial(variable, 37 * variable - 100);
        }
        x.execute(0, 0);
        int[] want = new int[8];
        for (int variable = 0; variable < 8; variable++) {
            want[variable] = x.result(variable);
        }
        for (int order = 1; order <= 3; order++) {
            for (int width = 1; width <= 8; width++) {
                x.execute(order, width);
                for (int variable = 0; variable < 8; variable++) {
                    due(x.result(variable), want[variable]);
                }
            }
        }
    }

    private static void executeOthers() {
        sentence("promise 23, all kinds");
        for (int n = 0; n <= 16; n++) {
            dueSameInAllOrders(n);
        }
        // A private variable has the last iteration's value, with initial values at its beginning.
        ReductionFinder y = loop("t=a[i]+u;s=s-t;");
        setElements(y, 0, 4, 5, 6);
        y.setCount(3);
        y.setInitial(2, 10);
        y.setInitial(1, 77);
        for (int order = 0; order <= 3; order++) {
            due(y.execute(order, 2), 2);
            due(y.result(0), -45);
            due(y.result(1), 16);
            due(y.result(2), 10);
        }
        y.setCount(0);
        for (int order = 0; order <= 3; order++) {
            due(y.execute(order, 2), 0);
            due(y.result(1), 77);
        }
    }

    private static void executeFloats() {
        sentence("promise 23, mode 1");
        ReductionFinder x = loop("s=s*99;t=t*(0-99);u=min(u,a[i]);v=max(v,b[i]);w=if(a[i],1,2);");
        x.setMode(1);
        x.setInitial(0, 1);
        x.setInitial(1, 1);
        setElements(x, 0, 4, -5, 6);
        setElements(x, 1, -4, -5, 6);
        x.setCount(3);
        for (int order = 0; order <= 3; order++) {
            due(x.execute(order, 3), 5);
            due(x.resultFloat(0), 970299.0f);
            due(x.resultFloat(1), -970299.0f);
            due(x.resultFloat(2), -5.0f);
            due(x.resultFloat(3), 6.0f);
            due(x.resultFloat(4), 1.0f);
        }
        x.setCount(16);
        for (int order = 0; order <= 3; order++) {
            x.execute(order, 3);
            due(x.resultFloat(0), 1.0e30f);
            due(x.resultFloat(1), 1.0e30f);
        }
        ReductionFinder y = loop("s=s*99*99*99*99*99*99*99*99*99*99*99*99*99*99*99*99;t=0-s;u=s+s;v=t-s;");
        y.setMode(1);
        y.setInitial(0, 1);
        y.setCount(1);
        y.execute(0, 0);
        due(y.resultFloat(0), 1.0e30f);
        due(y.resultFloat(1), -1.0e30f);
        due(y.resultFloat(2), 1.0e30f);
        due(y.resultFloat(3), -1.0e30f);
        ReductionFinder rounded = loop("s=64*64*64*64+1;");
        rounded.setMode(1);
        rounded.setCount(1);
        rounded.execute(0, 0);
        due(rounded.resultFloat(0), 16777216.0f);
    }

    private static void executeWrong() {
        sentence("promise 23, wrong calls");
        ReductionFinder x = loop("s=s|1;t=s;");
        dueThrow(() -> x.execute(-1, 1), ARGUMENT);
        dueThrow(() -> x.execute(4, 1), ARGUMENT);
        for (int order = 1; order <= 2; order++) {
            int given = order;
            dueThrow(() -> x.execute(given, 0), ARGUMENT);
            dueThrow(() -> x.execute(given, 9), ARGUMENT);
            dueThrow(() -> x.execute(given, 1), STATE);
            dueThrow(() -> x.execute(given, 8), STATE);
        }
        dueThrow(() -> x.execute(3, 0), STATE);
        x.setMode(1);
        dueThrow(() -> x.execute(0, 0), UNSUPPORTED);
        dueThrow(() -> x.execute(1, 1), UNSUPPORTED);
        dueThrow(() -> x.execute(1, 9), ARGUMENT);
        x.setMode(0);
        x.setCount(1);
        due(x.execute(0, 0), 2);
        x.setInitial(0, 4);
        dueThrow(() -> x.execute(3, 0), STATE);
        due(x.result(0), 1);
        ReductionFinder y = loop("s=1^2;s=3;");
        y.setMode(1);
        dueThrow(() -> y.execute(0, 0), UNSUPPORTED);
    }

    private static void result() {
        sentence("promise 24");
        ReductionFinder x = loop("s=s+1;");
        dueThrow(() -> x.result(0), STATE);
        dueThrow(() -> x.result(8), INDEX);
        x.setCount(2);
        x.execute(0, 0);
        due(x.result(0), 2);
        x.setInitial(0, 5);
        x.setCount(9);
        x.setMode(1);
        due(x.result(0), 2);
        dueThrow(() -> x.result(-1), INDEX);
        x.execute(0, 0);
        dueThrow(() -> x.result(0), STATE);
        x.setMode(0);
        dueThrow(() -> x.result(0), STATE);
        x.execute(0, 0);
        due(x.result(0), 14);
        dueThrow(() -> loadText(x, "s"), ARGUMENT);
        due(x.result(0), 14);
        x.save();
        due(x.result(0), 14);
        x.restore();
        dueThrow(() -> x.result(0), STATE);
        x.execute(0, 0);
        loadText(x, "s=1;");
        dueThrow(() -> x.result(0), STATE);
    }

    private static void resultFloat() {
        sentence("promise 25");
        ReductionFinder x = loop("s=s+1;");
        dueThrow(() -> x.resultFloat(0), STATE);
        dueThrow(() -> x.resultFloat(8), INDEX);
        x.setCount(2);
        x.execute(0, 0);
        dueThrow(() -> x.resultFloat(0), STATE);
        x.setMode(1);
        dueThrow(() -> x.resultFloat(0), STATE);
        x.execute(0, 0);
        due(x.resultFloat(0), 2.0f);
        x.setMode(0);
        due(x.resultFloat(0), 2.0f);
        dueThrow(() -> x.resultFloat(-1), INDEX);
        x.save();
        x.restore();
        dueThrow(() -> x.resultFloat(0), STATE);
        x.setMode(1);
        x.execute(0, 0);
        loadText(x, "s=1;");
        dueThrow(() -> x.resultFloat(0), STATE);
    }

    private static void difference() {
        sentence("promise 26");
        ReductionFinder x = loop("s=s+a[i];");
        dueThrow(() -> x.difference(0), STATE);
        dueThrow(() -> x.difference(8), INDEX);
        dueThrow(() -> x.difference(-1), INDEX);
        setElements(x, 0, 1, 2, 3);
        x.setCount(3);
        x.execute(3, 0);
        due(x.difference(0), 0.0);
        x.setCount(2);
        due(x.difference(0), 3.0);
        x.setCount(3);
        x.setElement(0, 0, 50);
        due(x.difference(0), 49.0);
        due(x.difference(1), 0.0);
        x.setInitial(1, -7);
        due(x.difference(1), 7.0);
        due(x.result(0), 6);
        x.setMode(1);
        dueThrow(() -> x.difference(0), STATE);
        x.execute(0, 0);
        x.setElement(0, 0, 1);
        due(x.difference(0), 49.0);
        due(x.resultFloat(0), 55.0f);
        ReductionFinder wide = loop("s=s+a[i]*99*99*99*99;");
        wide.setCount(1);
        wide.setElement(0, 0, 20);
        wide.execute(0, 0);
        wide.setElement(0, 0, -20);
        due(wide.difference(0), 40.0 * 99 * 99 * 99 * 99);
    }

    private static void cost() {
        sentence("promise 27");
        ReductionFinder x = loop("s=s+a[i]*2;t=t-1;u=if(a[i],1,min(2,3));");
        // 2 reductions and 5 operators and functions
        due(x.cost(0, 0), 0);
        due(x.cost(3, 0), 0);
        due(x.cost(1, 8), 0);
        x.setCount(5);
        due(x.cost(0, 99), 25);
        due(x.cost(1, 1), 27);
        due(x.cost(1, 2), 19);
        due(x.cost(2, 4), 18);
        due(x.cost(1, 8), 21);
        due(x.cost(2, 8), 21);
        due(x.cost(3, -5), 13);
        int[] rows = {0, 0, 1, 2, 2, 3, 3, 3, 3, 4, 4, 4, 4, 4, 4, 4, 4};
        for (int n = 1; n <= 16; n++) {
            x.setCount(n);
            due(x.cost(3, 0), 5 + 2 * (rows[n] + 1));
        }
        dueThrow(() -> x.cost(-1, 1), ARGUMENT);
        dueThrow(() -> x.cost(4, 1), ARGUMENT);
        dueThrow(() -> x.cost(1, 0), ARGUMENT);
        dueThrow(() -> x.cost(2, 9), ARGUMENT);
        // A statement's operators count, whatever becomes of its value, and the mode does not matter.
        ReductionFinder y = loop("s=s*s;s=1^2;s=s*t;t=t+1;");
        y.setMode(1);
        y.setCount(2);
        due(y.cost(0, 0), 8);
        dueThrow(() -> y.cost(1, 2), STATE);
        dueThrow(() -> y.cost(3, 0), STATE);
        dueThrow(() -> y.cost(1, 9), ARGUMENT);
    }

    private static void cheapest() {
        sentence("promise 28");
        ReductionFinder x = loop("s=s+1;");
        due(x.cheapest(), 0);
        x.setCount(1);
        due(x.cheapest(), 0);
        x.setCount(16);
        // Order 0: 16; widths 2, 4, 8: 10, 8, 10; tree: 6
        due(x.cheapest(), 30);
        loadText(x, "s=s+1;t=t+1;u=u+1;v=v+1;w=w*(1+2+3);");
        // 7 operators, 5 reductions, n = 4: order 0: 28; widths: 24, 27, 47; tree: 22
        x.setCount(4);
        due(x.cheapest(), 30);
        // n = 3: 21; 24, 27, 47; 22
        x.setCount(3);
        due(x.cheapest(), 0);
        loadText(x, "s=s;t=t;u=u+1+2;");
        // 2 operators, 3 reductions, n = 7: 14; 8 + 6 = 14; tree 14
        x.setCount(7);
        due(x.cheapest(), 0);
        loadText(x, "s=s;t=t;u=u+1;v=v*2*3*4;");
        // 4 operators, 4 reductions, n = 4: 16; 8 + 8 = 16; tree 4 + 12 = 16; n = 6: 24; 12 + 8 = 20; tree 20
        x.setCount(6);
        due(x.cheapest(), 12);
        loadText(x, "s=1+2+3+4;");
        // No reduction: the greatest width is better until each part has one iteration.
        x.setCount(3);
        due(x.cheapest(), 14);
        x.setCount(8);
        due(x.cheapest(), 18);
        x.setCount(16);
        due(x.cheapest(), 30);
        loadText(x, "s=s*s;");
        due(x.cheapest(), 0);
    }

    private static void save() {
        sentence("promise 29");
        ReductionFinder x = loop("s=s+1;");
        x.setMode(1);
        x.setCount(3);
        x.setElement(2, 1, 44);
        x.setInitial(5, 55);
        x.open(0);
        x.execute(0, 0);
        x.save();
        due(x.next(), 300);
        due(x.resultFloat(0), 3.0f);
        loadText(x, "t=1;u=2;");
        x.setMode(0);
        x.setCount(4);
        x.setElement(2, 1, 45);
        x.setInitial(5, 56);
        x.save();
        loadText(x, "v=1;w=2;x=3;");
        x.restore();
        due(x.statements(), 2);
        due(x.setMode(1), 0);
        due(x.setCount(9), 4);
        due(x.element(2, 1), 45);
        due(x.setInitial(5, 0), 56);
    }

    private static void restore() {
        sentence("promise 30");
        ReductionFinder x = loop("s=s+1;");
        dueThrow(() -> restore(x), STATE);
        x.setMode(1);
        x.setCount(3);
        x.fill(0, 1);
        int first = x.element(0, 0);
        x.setInitial(5, 55);
        x.save();
        for (int round = 0; round < 4; round++) {
            loadText(x, "t=1;u=2;");
            x.setMode(0);
            x.setCount(4);
            x.fill(0, 2);
            x.setInitial(5, 56);
            dueThrow(() -> loadText(x, "s=s+s;s=s+s;s=s+s;s=s+s;s=s+s;s=s+s;s=s+s;s=s+s;"), STATE);
            loadText(x, "v=1;w=2;x=3;");
            due(x.statements(), 3);
            appendText(x, "s=1;");
            x.restore();
            due(x.load(), 1);
            x.restore();
            due(x.statements(), 1);
            due(x.kind(0), 2);
            due(x.kind(1), 0);
            due(nodesOf(x, 0), "300 100 1");
            due(x.element(0, 0), first);
            due(x.execute(0, 0), 1);
            due(x.resultFloat(0), 3.0f);
            due(x.resultFloat(5), 55.0f);
            due(x.setCount(0), 3);
            due(x.setMode(0), 1);
        }
        ReductionFinder y = new ReductionFinder();
        y.save();
        loadText(y, "s=1;");
        y.restore();
        due(y.statements(), 0);
        due(y.kind(0), 0);
    }
}
