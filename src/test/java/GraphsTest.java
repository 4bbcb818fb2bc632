/** Promises 14 to 22: graphs, examples, the smallest graph, and what is told of graphs and states. */
public final class GraphsTest {
    private static final int[] NO_GRAPH = {-1, 4, Integer.MIN_VALUE, Integer.MAX_VALUE};
    private static final int[] NO_WHAT = {-1, 6, Integer.MIN_VALUE, Integer.MAX_VALUE};

    public static void main(String[] args) {
        graph();
        graphOrder();
        graphOrderOfTwo();
        graphOfEachKind();
        graphOfPartners();
        graphAsOneOfNone();
        unseenByFallingNumbers();
        unseenRounds();
        graphWithoutNames();
        graphOfManyStates();
        graphOfLargeStates();
        graphOfManyThings();
        example();
        smallest();
        smallestByEachAct();
        ofGraph();
        ofState();
        steps();
        term();
        which();
        isEverAgain();
        Due.end();
    }

    /** The steps of all states, with "/" between. */
    private static String all(Twotalk x, int n) {
        StringBuilder all = new StringBuilder();
        for (int p = 0; p < x.ofGraph(n, 0); p++) {
            all.append(p > 0 ? "/" : "").append(x.steps(n, p));
        }
        return all.toString();
    }

    private static String terms(Twotalk x, int n) {
        StringBuilder all = new StringBuilder();
        for (int p = 0; p < x.ofGraph(n, 0); p++) {
            all.append(p > 0 ? "/" : "").append(x.term(n, p));
        }
        return all.toString();
    }

    /** The terms of all states but the first one. */
    private static String rest(Twotalk x, int n) {
        return terms(x, n).substring(x.term(n, 0).length() + 1);
    }

    private static void shape(String term, String due, String... lines) {
        Twotalk x = Due.house(lines);
        Due.put(x, term);
        Due.is(due.split("/", -1).length, "graph of " + term, () -> x.graph(1));
        Due.is(due, "steps of " + term, () -> all(x, 1));
    }

    private static void graph() {
        Twotalk x = new Twotalk();
        Due.fails(Due.STATE, x, "graph without a top", () -> x.graph(0));
        Due.fails(Due.INDEX, x, "graph(4) without a top", () -> x.graph(4));
        Due.put(x, "b.0");
        Due.put(x, "(a.0|A.0)");
        for (int n : NO_GRAPH) {
            Due.fails(Due.INDEX, x, "graph(" + n + ")", () -> x.graph(n));
        }
        Due.is(4, "graph", () -> x.graph(3));
        Due.is("b.0", "the top is taken away", () -> x.text(0));
        Due.is("(a.0|A.0)/(0|0)/(0|A.0)/(a.0|0)", "the states", () -> terms(x, 3));
        Due.is("t1 a2 A3//A1/a1", "the steps", () -> all(x, 3));
        Due.is("0", "other graphs stay", () -> terms(x, 0) + terms(x, 1).substring(1) + terms(x, 2).substring(1));
        Due.is(2, "another one in its place", () -> x.graph(3));
        Due.is("b.0/0", "the states", () -> terms(x, 3));
    }

    private static void graphOrder() {
        Twotalk x = Due.house("0=0");
        Due.graph(x, 0, "(a.t.0+(a.X0+(a.a.0+(a.A.0+(a.0+a.(0+0))))))");
        Due.is("(0+0)/0/A.0/X0/a.0/t.0", "by the first signs", () -> rest(x, 0));
        Due.graph(x, 0, "((a.(0|0)+a.(0:ab))+(a.(0-a)+a.(0+0)))");
        Due.is("a1 a2 a3 a4", "four", () -> x.steps(0, 0));
        Due.is("(0+0)/(0-a)/(0:ab)/(0|0)", "by the signs behind the same term", () -> rest(x, 0));
        Due.graph(x, 0, "((a.(0:ba)+a.(0:ab))+((a.(0-b)+a.(0-a))+a.(0:aa)))");
        Due.is("(0-a)/(0-b)/(0:aa)/(0:ab)/(0:ba)", "by the channels", () -> rest(x, 0));
        Due.graph(x, 0, "((a.(X0|X0)+a.(0|X0))+(a.(0|0)+a.((0|X0)|0)))");
        Due.is("((0|X0)|0)/(0|0)/(0|X0)/(X0|X0)", "by what stands inside", () -> rest(x, 0));
        Due.graph(x, 0, "(D.b.0+(t.c.0+(A.a.0+d.X0)))");
        Due.is("t1 d2 A3 D4", "by acts first", () -> x.steps(0, 0));
        Due.is("c.0/X0/a.0/b.0/0", "by acts first", () -> rest(x, 0));
        Due.told(x, "1=0", "7=0");
        Due.graph(x, 0, "(a.X7+(a.X1+a.X0))");
        Due.is("X0/X1/X7", "by the numbers of names", () -> rest(x, 0));
        Due.graph(x, 0, "((a.0|a.0)+(a.0|a.0))");
        Due.is("a1 a2/a3/a3/", "the same text is the same state", () -> all(x, 0));
        Due.graph(x, 0, "(a.b.0+a.b.0)");
        Due.is("a1/b2/", "a pair is told once", () -> all(x, 0));
    }

    /** "by TEXTS (sign by sign, as in ASCII)": each two of these, whichever is told first */
    private static void graphOrderOfTwo() {
        String[] all = {"0", "X0", "X1", "X7", "t.0", "a.0", "A.0", "D.0", "a.X0", "a.a.0", "a.(0+0)", "(0+0)", "(0|0)",
            "(0-a)", "(0-b)", "(0-d)", "(0:aa)", "(0:ab)", "(0:ad)", "(0:ba)", "(0:da)", "(0:dd)", "(0+X0)", "(X0+0)",
            "(0+(0|0))", "((0|0)+0)", "((0+0)|0)", "((0-a)-b)", "((0-b)-a)", "((0:ab)-a)", "((0-a):ab)", "((0|X1)+X0)",
            "((0|X0)|X7)", "(t.0+a.0)", "(a.0+t.0)", "(a.(0-c)|0)", "(a.(0-b)|0)", "(X7-a)", "(X1-d)"};
        for (String one : all) {
            for (String other : all) {
                if (!one.equals(other)) {
                    Twotalk x = Due.house("0=0", "1=0", "7=0");
                    Due.graph(x, 0, "(a." + one + "+a." + other + ")");
                    String due = one.compareTo(other) < 0 ? one + " " + other : other + " " + one;
                    Due.is(due, "the order of two", () -> x.term(0, 1) + " " + x.term(0, 2));
                }
            }
        }
    }

    private static void graphOfEachKind() {
        shape("0", "");
        shape("t.0", "t1/");
        shape("(a.0+B.0)", "a1 B1/");
        shape("((a.0|A.0)-a)", "t1/");
        shape("((a.0|A.0)-b)", "t1 a2 A3//A1/a1");
        shape("(t.0|a.0)", "t1 a2/a3/t3/");
        shape("(a.0|a.0)", "a1 a2/a3/a3/");
        shape("(A.0|B.0)", "A1 B2/B3/A3/");
        shape("((a.0+t.b.0)-a)", "t1/b2/");
        shape("((a.0+A.0)-a)", "");
        shape("(b.0-a)", "b1/");
        shape("((a.0+A.b.0):ac)", "c1 C2//b1");
        shape("((a.0|c.0):ac)", "c1 c2/c3/c3/");
        shape("(((a.0:ab)|B.0)-b)", "t1/");
        shape("((a.0|B.0):ab)", "b1 B2/B3/b3/");
        shape("(a.0:aa)", "a1/");
        shape("(t.0:ab)", "t1/");
        shape("(((a.0+b.0):ab):bc)", "c1/");
        shape("X0", "a0", "0=a.X0");
        shape("a.X0", "a1/a1", "0=a.X0");
        shape("X0", "a1/b0", "0=X1", "1=a.b.X0");
        shape("(X0|X0)", "t1 t2 a3 a4 A5 A6///a7 A1/a7 A2/a1 A8/a2 A8//",
                "0=(a.0+A.X1)", "1=0");
    }

    /** Partners meet wherever they stand among what both can do. */
    private static void graphOfPartners() {
        String left = "((a.X1+b.X2)+c.X3)";
        String[] turns = {"(A.X1+(B.X2+C.X3))", "((B.X2+C.X3)+A.X1)", "(C.X3+(B.X2+A.X1))", "(B.X2+(A.X1+C.X3))"};
        for (String right : turns) {
            for (boolean isTurned : new boolean[] {false, true}) {
                Twotalk x = Due.house("1=0", "2=0", "3=0");
                String term = isTurned ? "(" + right + "|" + left + ")" : "(" + left + "|" + right + ")";
                Due.graph(x, 2, term);
                Due.is("t1 t2 t3 a4 b5 c6 A7 B8 C9", "steps of " + term, () -> x.steps(2, 0));
                Due.is("(X1|X1) (X2|X2) (X3|X3)", "where they meet in " + term,
                        () -> x.term(2, 1) + " " + x.term(2, 2) + " " + x.term(2, 3));
            }
        }
        shape("((d.0+D.0)|(d.0+D.0))", "t1 d2 d3 D2 D3//d1 D1/d1 D1");
        String[] rights = {"((A.0+B.0):bc)", "((B.0+A.0):bc)", "((A.0+(C.0+B.0))-b)", "((B.0+(C.0+A.0))-b)"};
        for (String right : rights) {
            shape("((b.0+c.0)|" + right + ")", "t1 b2 c2 A3 C3//A1 C1/b1 c1");
            shape("(" + right + "|(b.0+c.0))", "t1 b2 c2 A3 C3//A1 C1/b1 c1");
        }
        shape("((a.0+(b.0+t.c.0))|t.B.0)", "t1 t2 a3 b3/t4 t5 a6 b6 B7/t5 c3/t6//c6 B8/B4/t8 a4 b4/c4");
    }

    /** A graph has nothing of those that it or another one had ahead of it. */
    private static void graphAsOneOfNone() {
        String[] ahead = {"t.t.t.t.t.X0", "t.X1", "((a.b.0+t.c.0)|(a.0+B.0))", "a.b.c.d.A.B.C.D.t.0"};
        for (int turn = 0; turn < 3 * ahead.length; turn++) {
            Twotalk x = Due.house("0=t.X0", "1=(t.X1+(a.X1+D.X1))");
            for (int i = 0; i < 3; i++) {
                Due.graph(x, (turn + i) % 2, ahead[(turn + i) % ahead.length]);
            }
            for (int n = 0; n < 4; n++) {
                int graph = n;
                Due.is(2, "states of c.0", () -> Due.graph(x, graph, "c.0"));
                Due.is("c1/", "its steps", () -> all(x, graph));
                Due.is("c.0/0", "its terms", () -> terms(x, graph));
                Due.is("1", "which are still", () -> x.which(graph, false));
                Due.is("", "which diverge", () -> x.which(graph, true));
                Due.is("1 8 0 0 2 1", "facts of its first state", () -> facts(x, graph, 0));
                Due.is("0 0 0 1 1 0", "facts of its last state", () -> facts(x, graph, 1));
            }
            x.smallest(0, 3);
            Due.is("1 8 0 0 2 1", "facts of the smallest one", () -> facts(x, 3, 0));
        }
    }

    /** Rows by t along which numbers fall, as the first state comes to each of them by c: CAN and what diverges. */
    private static void unseenByFallingNumbers() {
        String[] rows = new String[12];
        for (int k = 1; k <= 11; k++) {
            rows[k] = "t.".repeat(k) + "X5";
        }
        Twotalk x = Due.house("0=((X1+X2)+((X3+X4)+" + rows[11] + "))",
                "1=((c." + rows[1] + "+c." + rows[2] + ")+(c." + rows[3] + "+c." + rows[4] + "))",
                "2=(c." + rows[5] + "+c." + rows[6] + ")", "3=(c." + rows[7] + "+c." + rows[8] + ")",
                "4=(c." + rows[9] + "+c." + rows[10] + ")", "5=d.0");
        Due.graph(x, 1, "X0");
        Due.is("t1 c1 c2 c3 c4 c5 c6 c7 c8 c9 c10", "steps", () -> x.steps(1, 0));
        Due.is("t10 t11 t2", "their way", () -> x.steps(1, 1) + " " + x.steps(1, 2) + " " + x.steps(1, 3));
        Due.is("", "none diverges", () -> x.which(1, true));
        for (int p = 1; p <= 11; p++) {
            int state = p;
            Due.is(16, "CAN of " + p, () -> x.ofState(1, state, 1));
            int longest = p == 1 ? 11 : p == 11 ? 1 : p;
            Due.is(longest, "the longest row from " + p, () -> x.ofState(1, state, 5));
        }
        Due.told(x, "5=t.X0");
        Due.graph(x, 1, "X0");
        Due.is("0 1 2 3 4 5 6 7 8 9 10 11", "all diverge", () -> x.which(1, true));
        Due.is(8, "CAN of the last one", () -> x.ofState(1, 11, 1));
    }

    /** "if it can go on by t for ever": round by one t, by two and by up to 24; behind some t, and behind a seen act */
    private static void unseenRounds() {
        for (int length = 1; length <= 24; length++) {
            int states = length;
            Twotalk x = Due.house("0=" + "t.".repeat(Math.min(length, 23)) + (length == 24 ? "X1" : "X0"), "1=t.X0");
            Due.is(states, "states that go round", () -> Due.graph(x, 1, "X0"));
            Due.is(states, "all of them diverge", () -> x.ofGraph(1, 3));
            Due.is(1, "the last one diverges", () -> x.ofState(1, states - 1, 2));
        }
        for (int length = 2; length <= 12; length++) {
            int states = Math.max(3, length);
            Twotalk x = Due.house("0=" + "t.".repeat(length) + "X0", "1=" + "t.".repeat(length - 1) + "a.X1");
            Due.graph(x, 1, "b.t.t.X0");
            Due.is(states, "behind a seen act", () -> x.ofGraph(1, 3));
            Due.is(0, "not the first one", () -> x.ofState(1, 0, 2));
            Due.graph(x, 2, "X1");
            Due.is(0, "not with a seen act in between", () -> x.ofGraph(2, 3));
        }
    }

    private static String facts(Twotalk x, int n, int p) {
        StringBuilder all = new StringBuilder();
        for (int what = 0; what < 6; what++) {
            all.append(what > 0 ? " " : "").append(x.ofState(n, p, what));
        }
        return all.toString();
    }

    private static void graphWithoutNames() {
        Twotalk x = Due.house("0=(a.0+X0)", "1=a.X5", "2=X5", "3=b.X0");
        String[] all = {
            "X5", "a.X5", "(a.0|X5)", "((b.0+X5)-a)", "X0", "a.X0", "X1", "X2", "X3", "(X5:ab)", "a.b.(0|X2)"};
        Due.graph(x, 2, "d.0");
        for (String each : all) {
            Due.put(x, each);
            Due.fails(Due.ARGUMENT, x, "graph of " + each, () -> x.graph(2));
            Due.is(each, "the top stays", () -> x.text(0));
            Due.is("d.0/0", "the graph stays", () -> terms(x, 2));
            x.drop();
        }
        Due.put(x, "((a.X5|0)-a)");
        Due.is(1, "a name that is not come to need not be told", () -> x.graph(2));
        Due.put(x, "X1");
        Due.told(x, "5=c.X1");
        Due.is(2, "it is told later", () -> x.graph(2));
    }

    private static void graphOfManyStates() {
        Twotalk x = Due.house("0=a.0", "1=0");
        Due.put(x, "a.a.a.a.a.a.a.a.a.a.a.a.a.a.a.a.a.a.a.a.a.a.a.0");
        Due.is(24, "24 states", () -> x.graph(0));
        Due.is(23, "the longest row", () -> x.ofState(0, 0, 5));
        Due.put(x, "a.a.a.a.a.a.a.a.a.a.a.a.a.a.a.a.a.a.a.a.a.a.a.X1");
        Due.is(24, "24 states, a name last", () -> x.graph(0));
        Due.put(x, "a.a.a.a.a.a.a.a.a.a.a.a.a.a.a.a.a.a.a.a.a.a.a.X0");
        Due.fails(Due.ARGUMENT, x, "25 states", () -> x.graph(0));
        x.drop();
        Due.put(x, "((a.a.0|b.b.0)|c.0)");
        Due.is(18, "three by three by two", () -> x.graph(0));
        Due.put(x, "((a.a.a.0|b.b.0)|c.0)");
        Due.is(24, "four by three by two", () -> x.graph(0));
        Due.put(x, "((a.a.0|b.b.0)|c.c.0)");
        Due.fails(Due.ARGUMENT, x, "three by three by three", () -> x.graph(0));
    }

    private static void graphOfLargeStates() {
        String still = "((((((((((((((((((((((0-a)-a)-a)-a)-a)-a)-a)-a)-a)-a)-a)-a)-a)-a)-a)-a)-a)-a)-a)-a)-a)-a)";
        Twotalk x = Due.house("0=a." + still);
        Due.put(x, "((X0|X0)-b)");
        Due.is(4, "a state of the size 48", () -> x.graph(0));
        Due.is("((" + still + "|" + still + ")-b)", "its text", () -> x.term(0, 3));
        Due.put(x, "(((X0|X0)-b)-b)");
        Due.fails(Due.ARGUMENT, x, "a state of the size 49", () -> x.graph(0));
        x.drop();
        Due.put(x, "((((X0|X0)-b)-b)-a)");
        Due.is(1, "a larger one that is not come to", () -> x.graph(0));
    }

    /** Names that can do 8 unlike things each, all others than those of the others. */
    private static Twotalk wide() {
        Twotalk x = new Twotalk();
        for (int k = 0; k < 7; k++) {
            String to = k == 0 ? "0" : "X" + (k - 1);
            Due.told(x, k + "=(((a." + to + "+b." + to + ")+(c." + to + "+d." + to + "))+((A." + to + "+B." + to
                    + ")+(C." + to + "+D." + to + ")))");
        }
        return x;
    }

    private static void graphOfManyThings() {
        String sum = "((((X0+X1)+(X2+X3))+(X4+X5))+(X6+X7))";
        Twotalk x = wide();
        Due.told(x, "7=((t.0+t.X0)+(t.X1+t.X2))");
        Due.put(x, sum);
        Due.is(8, "60 unlike things", () -> x.graph(0));
        Due.is(60, "all of them are steps", () -> x.ofState(0, 0, 0));
        Due.put(x, "(((" + sum + "-a)-b)-c)");
        Due.is(8, "60 unlike things inside", () -> x.graph(0));
        Due.put(x, "(" + sum + "+(t.0+a.X5))");
        Due.is(8, "two that are there already", () -> x.graph(0));
        Due.put(x, "(" + sum + "+a.X6)");
        Due.fails(Due.ARGUMENT, x, "61 unlike things", () -> x.graph(0));
        Due.told(x, "7=((t.0+t.X0)+((t.X1+t.X2)+t.X3))");
        String[] all = {sum, "((((" + sum + "-a)-b)-c)-d)", "(" + sum + ":ab)", "b." + sum};
        for (String each : all) {
            Due.put(x, each);
            Due.fails(Due.ARGUMENT, x, "61 unlike things in " + each, () -> x.graph(0));
            x.drop();
        }
        String names = "(((X0+X1)+(X2+X3))+(X4+X5))+((X0:ab)+(X1:ab))";
        Due.told(x, "7=(" + names + ")");
        Due.put(x, "((((X7-a)-b)-c)-d)");
        Due.is(1, "60 of what a name means", () -> x.graph(0));
        Due.told(x, "7=((" + names + ")+b.0)");
        Due.put(x, "((((X7-a)-b)-c)-d)");
        Due.is(1, "60 of what a name means, one of them twice", () -> x.graph(0));
        Due.told(x, "7=((" + names + ")+t.0)");
        Due.put(x, "((((X7-a)-b)-c)-d)");
        Due.fails(Due.ARGUMENT, x, "61 of what a name means", () -> x.graph(0));
    }

    private static void example() {
        int[] due = {7, 9, 7, 4, 6};
        int[] told = {5, 4, 0, 2, 0};
        for (int k = 0; k < 5; k++) {
            int asked = k;
            Twotalk x = new Twotalk();
            Due.is(due[k], "example(" + k + ")", () -> x.example(asked));
            Due.is(told[k], "its names", () -> x.house(1));
            Due.is(told[k], "its names are guarded", () -> x.house(2));
        }
        exampleShapes();
        Twotalk x = Due.house("0=d.0", "7=d.d.0");
        Due.put(x, "c.0");
        Due.graph(x, 2, "b.0");
        Due.say(x, "<a>T");
        x.example(3);
        Due.is("c.0", "the stack stays", () -> x.text(0));
        Due.is("<a>T", "the desk stays", x::said);
        Due.is("b.0/0", "other graphs stay", () -> terms(x, 2));
        Due.is("d.d.0", "other names stay", () -> x.meant(7));
        Due.is("t.X0", "its own are told anew", () -> x.meant(0));
        for (int k : new int[] {-1, 5, Integer.MAX_VALUE, Integer.MIN_VALUE}) {
            Due.fails(Due.INDEX, x, "example(" + k + ")", () -> x.example(k));
        }
    }

    private static void exampleShapes() {
        Twotalk x = new Twotalk();
        x.example(0);
        String[] names = {"a.C.X0", "c.B.X1", "a.X3", "(a.X4+B.X2)", "B.X3", ""};
        for (int k = 0; k < names.length; k++) {
            int asked = k;
            Due.is(names[k], "meant of the example 0", () -> x.meant(asked));
        }
        Due.is("((X0|X1)-c)/((C.X0|X1)-c)/((X0|B.X1)-c)/((C.X0|B.X1)-c)", "terms of 0", () -> terms(x, 0));
        Due.is("a1/t2/a3 B0/B1", "steps of 0", () -> all(x, 0));
        Due.is("X2/X3/X4", "terms of 0", () -> terms(x, 1));
        Due.is("a1/a2 B0/B1", "steps of 0", () -> all(x, 1));
        x.example(1);
        String[] later = {"A.c.B.X0", "A.d.B.X1", "a.b.X2", "(t.c.t.X3+t.d.t.X3)", "B.X3"};
        for (int k = 0; k < later.length; k++) {
            int asked = k;
            Due.is(later[k], "meant of the example 1, after 0", () -> x.meant(asked));
        }
        Due.is("((((X0|X1)|X2)-a)-b)", "term of 1", () -> x.term(0, 0));
        Due.is("t1 t2/d3/c4/t0/t0", "steps of 1", () -> all(x, 0));
        Due.is("t1 t2/c3/d3/t0", "steps of 1", () -> all(x, 1));
        x.example(2);
        Due.is("a.(b.0+c.0)/(b.0+c.0)/0", "terms of 2", () -> terms(x, 0));
        Due.is("(a.b.0+a.c.0)/b.0/c.0/0", "terms of 2", () -> terms(x, 1));
        x.example(3);
        Due.is("(t.X1+a.0)", "meant of the example 3", () -> x.meant(1));
        Due.is("(X0|a.0)/(X0|0)", "terms of 3", () -> terms(x, 0));
        Due.is("t0 a1/t1", "steps of 3", () -> all(x, 0));
        Due.is("t0 a1/", "steps of 3", () -> all(x, 1));
        x.example(4);
        Due.is("(a.0+(t.b.0+b.0))/b.0/0", "terms of 4", () -> terms(x, 0));
        Due.is("(a.0+t.b.0)/b.0/0", "terms of 4", () -> terms(x, 1));
        Due.is("t1 a2 b2/b2/", "steps of 4", () -> all(x, 0));
    }

    private static void smallest() {
        Twotalk x = new Twotalk();
        x.example(1);
        Due.is(4, "smallest", () -> x.smallest(0, 2));
        Due.is("t1 t2/d3/c3/t0", "its steps", () -> all(x, 2));
        Due.is("((((X0|B.X1)|b.X2)-a)-b)", "a term is that of the smallest one", () -> x.term(2, 3));
        Due.is(5, "the graph itself stays", () -> x.ofGraph(0, 0));
        Due.is(true, "it is alike", () -> x.isAlike(4, 0, 0, 2, 0));
        Due.is(4, "smallest in its place", () -> x.smallest(0, 0));
        Due.is("t1 t2/d3/c3/t0", "its steps", () -> all(x, 0));
        Due.graph(x, 3, "((a.b.0+a.(b.0+b.0))+(b.0|0))");
        Due.is("a1 a2 b3/b4/b4//", "before", () -> all(x, 3));
        Due.is(3, "smallest", () -> x.smallest(3, 3));
        Due.is("a1 b2/b2/", "the first one of each stays", () -> all(x, 3));
        Due.is("((a.b.0+a.(b.0+b.0))+(b.0|0))/(b.0+b.0)/(0|0)", "its terms", () -> terms(x, 3));
        Due.graph(x, 3, "((b.c.0+a.(0-a))+(t.0+c.c.0))");
        Due.is("t1 a2 b3 c3///c1", "before", () -> all(x, 3));
        x.smallest(3, 1);
        Due.is("t1 a1 b2 c2//c1", "numbered as they first come", () -> all(x, 1));
        Due.told(x, "0=a.X1", "1=a.X0");
        Due.graph(x, 0, "(X0|X1)");
        Due.is(1, "one that goes round", () -> x.smallest(0, 3));
        Due.is("a0", "one that goes round", () -> all(x, 3));
        for (int n : NO_GRAPH) {
            Due.fails(Due.INDEX, x, "smallest of " + n, () -> x.smallest(n, 0));
            Due.fails(Due.INDEX, x, "smallest to " + n, () -> x.smallest(0, n));
        }
    }

    private static void smallestByEachAct() {
        for (char act : "tabcdABCD".toCharArray()) {
            Twotalk x = new Twotalk();
            Due.graph(x, 3, "(" + act + ".b.0+" + act + ".(b.0|0))");
            Due.is(act + "1 " + act + "2/b3/b4//", "before", () -> all(x, 3));
            Due.is(3, "smallest, by " + act, () -> x.smallest(3, 1));
            Due.is(act + "1/b2/", "its steps", () -> all(x, 1));
            Due.is("(b.0|0)/(0|0)", "its terms", () -> rest(x, 1));
        }
    }

    private static void ofGraph() {
        Twotalk x = Due.house("0=t.X0", "1=(t.X1+D.0)");
        Due.graph(x, 1, "(a.(X0|b.0)+(t.X1+c.0))");
        Due.is("t1 a2 c3/t1 D3/t2 b4//t4", "its steps", () -> all(x, 1));
        int[] due = {5, 8, 1, 4, 1 + 2 + 4 + 8 + 256, 4};
        for (int what = 0; what < 6; what++) {
            int asked = what;
            Due.is(due[what], "ofGraph(1, " + what + ")", () -> x.ofGraph(1, asked));
            Due.is(new int[] {1, 0, 1, 0, 0, 0}[what], "ofGraph(0, " + what + ")", () -> x.ofGraph(0, asked));
        }
        for (int n : NO_GRAPH) {
            Due.fails(Due.INDEX, x, "ofGraph of " + n, () -> x.ofGraph(n, 0));
            Due.fails(Due.INDEX, x, "ofGraph of " + n + ", 6", () -> x.ofGraph(n, 6));
        }
        for (int what : NO_WHAT) {
            Due.fails(Due.ARGUMENT, x, "ofGraph(0, " + what + ")", () -> x.ofGraph(0, what));
        }
    }

    private static void ofState() {
        Twotalk x = Due.house("0=t.X0", "1=(t.X1+D.0)");
        Due.graph(x, 1, "(a.(X0|b.0)+(t.X1+c.0))");
        int[][] due = {
            {3, 2 + 8 + 256, 1, 0, 5, -1}, {2, 256, 1, 0, 2, -1}, {2, 4, 1, 0, 2, -1}, {0, 0, 0, 1, 1, 0},
            {1, 0, 1, 0, 1, -1}};
        for (int p = 0; p < due.length; p++) {
            for (int what = 0; what < 6; what++) {
                int state = p;
                int asked = what;
                Due.is(due[p][what], "ofState(1, " + p + ", " + what + ")", () -> x.ofState(1, state, asked));
            }
        }
        Due.graph(x, 2, "(a.b.(t.0+c.0)+(t.d.0|0))");
        Due.is(2 + 16, "can, by unseen steps first", () -> x.ofState(2, 0, 1));
        Due.is(3, "the longest row", () -> x.ofState(2, 0, 5));
        Due.is(6, "all it comes to", () -> x.ofState(2, 0, 4));
        Due.graph(x, 2, "a.t.X0");
        Due.is(0, "diverges not by a seen act", () -> x.ofState(2, 0, 2));
        Due.is(1, "diverges later", () -> x.ofState(2, 1, 2));
        Due.told(x, "2=(t.a.X2+b.0)");
        Due.graph(x, 2, "X2");
        Due.is(0, "goes on for ever, but not by unseen steps alone", () -> x.ofState(2, 0, 2));
        Due.is(-1, "goes on for ever", () -> x.ofState(2, 0, 5));
        for (int n : NO_GRAPH) {
            Due.fails(Due.INDEX, x, "ofState of the graph " + n, () -> x.ofState(n, 0, 0));
        }
        for (int p : new int[] {-1, 5, 24, Integer.MAX_VALUE, Integer.MIN_VALUE}) {
            Due.fails(Due.INDEX, x, "ofState of the state " + p, () -> x.ofState(1, p, 0));
            Due.fails(Due.INDEX, x, "ofState of the state " + p + ", 6", () -> x.ofState(1, p, 6));
        }
        for (int what : NO_WHAT) {
            Due.fails(Due.ARGUMENT, x, "ofState(1, 0, " + what + ")", () -> x.ofState(1, 0, what));
        }
    }

    private interface Asked {
        Object of(int n, int p);
    }

    private static void wrongPlaces(Twotalk x, String call, Asked asked) {
        for (int n : NO_GRAPH) {
            Due.fails(Due.INDEX, x, call + " of the graph " + n, () -> asked.of(n, 0));
        }
        for (int p : new int[] {-1, x.ofGraph(2, 0), 24, Integer.MAX_VALUE, Integer.MIN_VALUE}) {
            Due.fails(Due.INDEX, x, call + " of the state " + p, () -> asked.of(2, p));
        }
    }

    private static void steps() {
        Twotalk x = new Twotalk();
        Due.is("", "steps without any", () -> x.steps(0, 0));
        Due.graph(x, 2, "((D.0+C.0)+((A.b.0+t.a.0)+(a.0+a.b.0)))");
        Due.is("t1 a2 a3 A3 C2 D2", "steps", () -> x.steps(2, 0));
        Due.is("a2", "steps", () -> x.steps(2, 1));
        Due.graph(x, 2, "a.a.a.a.a.a.a.a.a.a.a.0");
        Due.is("a11", "a number of two digits", () -> x.steps(2, 10));
        wrongPlaces(x, "steps", x::steps);
    }

    private static void term() {
        Twotalk x = Due.house("0=a.b.X0");
        Due.is("0", "term", () -> x.term(0, 0));
        Due.graph(x, 2, "(((X0|c.0)-a):bd)");
        Due.is("(((X0|c.0)-a):bd)/(((X0|0)-a):bd)", "terms", () -> terms(x, 2));
        Due.told(x, "0=0");
        Due.is("(((X0|c.0)-a):bd)", "a term stays as its name is told anew", () -> x.term(2, 0));
        wrongPlaces(x, "term", x::term);
    }

    private static void which() {
        Twotalk x = Due.house("0=t.X0", "1=(t.X1+D.0)");
        Due.graph(x, 1, "((a.(X0|b.0)+(t.X1+c.0))+A.(0|0))");
        Due.is("t1 a2 c3 A4/t1 D3/t2 b5///t5", "its steps", () -> all(x, 1));
        Due.is("3 4", "which are still", () -> x.which(1, false));
        Due.is("0 1 2 5", "which diverge", () -> x.which(1, true));
        Due.is("0", "which are still", () -> x.which(0, false));
        Due.is("", "which diverge", () -> x.which(0, true));
        Due.told(x, "2=(t.t.X2+a.0)");
        Due.graph(x, 1, "c.X2");
        Due.is("1 2", "all on a row that goes round", () -> x.which(1, true));
        Due.graph(x, 1, "X0");
        Due.is("", "none is still", () -> x.which(1, false));
        for (int n : NO_GRAPH) {
            Due.fails(Due.INDEX, x, "which of " + n, () -> x.which(n, true));
            Due.fails(Due.INDEX, x, "which of " + n, () -> x.which(n, false));
        }
    }

    private static void isEverAgain() {
        Twotalk x = Due.house("0=a.b.X0", "1=(t.X0+c.X1)");
        Due.graph(x, 2, "X1");
        boolean[] due = {false, true, true, false, false, false, false, false, false};
        for (int act = 0; act < 9; act++) {
            int asked = act;
            Due.is(due[act], "isEverAgain(2, " + act + ")", () -> x.isEverAgain(2, asked));
            Due.is(false, "isEverAgain(0, " + act + ")", () -> x.isEverAgain(0, asked));
        }
        Due.graph(x, 2, "(X0+a.0)");
        Due.is(false, "not where it may stand still", () -> x.isEverAgain(2, 1));
        Due.told(x, "2=(t.X2+a.X2)");
        Due.graph(x, 2, "X2");
        Due.is(true, "t", () -> x.isEverAgain(2, 0));
        Due.is(true, "a", () -> x.isEverAgain(2, 1));
        x.example(0);
        Due.is(true, "B of the example 0", () -> x.isEverAgain(0, 6));
        for (int n : NO_GRAPH) {
            Due.fails(Due.INDEX, x, "isEverAgain of " + n, () -> x.isEverAgain(n, 0));
        }
        for (int act : new int[] {-1, 9, Integer.MAX_VALUE, Integer.MIN_VALUE}) {
            Due.fails(Due.INDEX, x, "isEverAgain by " + act, () -> x.isEverAgain(0, act));
        }
    }
}
