/** The bounds that the sections 2, 5 (smallest) and 6 and the promises 14 to 22 name, sentence by sentence. */
public final class BoundsOfGraphsTest {
    private static final String STEPS_24 = "a.a.a.a.a.a.a.a.a.a.a.a.a.a.a.a.a.a.a.a.a.a.a.0";
    private static final String STILL_23 = "(((((((((((((((((((((((0" + "-a)".repeat(23);
    private static final String LETTERS = "tabcdABCD";
    private static final String CHANNELS = "abcd";
    private static final String SUM = "((((X0+X1)+(X2+X3))+(X4+X5))+(X6+X7))";
    private static final String[] ALL_TOLD = {"0=b.0", "1=b.0", "2=b.0", "3=b.0", "4=b.0", "5=b.0", "6=b.0", "7=b.0"};

    public static void main(String[] args) {
        graphNumber();
        graphIfEmpty();
        graphIfNotTold();
        graphIfNotGuarded();
        graphIfMetLater();
        graphOfNil();
        hiddenActs();
        renamedActs();
        partners();
        statesInARow();
        statesOfOneState();
        statesBeside();
        sizeOfStates();
        sizeOfStatesThatGrow();
        thingsOfAState();
        thingsBeside();
        thingsOfBothSides();
        thingsOfManyTerms();
        thingsOfManyTexts();
        thingsBesideMany();
        sizeBesideMany();
        thingsOfATermInIt();
        thingsOfWhatANameMeans();
        thingsBehindAStep();
        graphOnAFullStack();
        graphsWithoutAnEnd();
        exampleNumber();
        exampleInAFullHouse();
        smallestNumbers();
        smallestOfOneAndOfAll();
        ofGraphNumbers();
        ofGraphOfNoneAndOfAll();
        ofStateNumbers();
        ofStateOfNoneAndOfAll();
        statesThatWereThere();
        stepsAndTermNumbers();
        whichNumber();
        whichOfNoneAndOfAll();
        isEverAgainNumbers();
        isEverAgainOfNil();
        Due.end();
    }

    /** A house with something everywhere, and a term on its stack. */
    private static Edge.House topped(String term, String... lines) {
        return () -> {
            Twotalk x = Due.house(lines);
            for (int n = 0; n < 4; n++) {
                Due.graph(x, n, "a.b.(c.0+t.0)");
            }
            Due.say(x, "[b]T");
            x.nil();
            Due.put(x, term);
            return x;
        };
    }

    /** The house whose graph 1 is that of a term, and whose graph 2 has two states. */
    private static Edge.House graphed(String term, String... lines) {
        return () -> {
            Twotalk x = Due.house(lines);
            Due.graph(x, 1, term);
            Due.graph(x, 2, "A.0");
            return x;
        };
    }

    private static void keeps(int states, String what, Edge.House house) {
        Edge.allowed(states + " " + states + " 1", what, house,
                x -> x.graph(3) + " " + x.ofGraph(3, 0) + " " + x.house(0));
    }

    private static void breaks(String what, Edge.House house) {
        Edge.refused(Due.ARGUMENT, what, house, x -> x.graph(0));
        Edge.refused(Due.ARGUMENT, what + ", into the last one", house, x -> x.graph(3));
        Edge.outside(Due.INDEX, 0, 3, what + ", and no graph", house, Twotalk::graph);
    }

    /** "There are 4 GRAPHS, numbered from 0" "Throws IndexOutOfBoundsException if n is not 0 to 3", first of all */
    private static void graphNumber() {
        Edge.range(Due.INDEX, 0, 3, "graph", topped("d.0"), Twotalk::graph);
        Edge.outside(Due.INDEX, 0, 3, "graph on none", Twotalk::new, Twotalk::graph);
        for (int n = 0; n < 4; n++) {
            int graph = n;
            Edge.allowed("2 d.0 0 1", "graph(" + n + ")", topped("d.0"),
                    x -> x.graph(graph) + " " + x.term(graph, 0) + " " + x.text(0) + " " + x.house(0));
        }
    }

    /** "Throws IllegalStateException if the STACK is empty" (graph) */
    private static void graphIfEmpty() {
        Edge.refused(Due.STATE, "graph on none", Twotalk::new, x -> x.graph(0));
        Edge.refused(Due.STATE, "graph on none, as all are made graphs of", graphed("a.0"), x -> x.graph(1));
        Edge.refused(Due.STATE, "graph on none, as all are dropped", () -> {
            Twotalk x = topped("0").made();
            x.drop();
            x.drop();
            return x;
        }, x -> x.graph(3));
    }

    /** "if a NAME that is come to (as what a TERM can do is looked for) is not TOLD" */
    private static void graphIfNotTold() {
        String[] all = {"X3", "(a.0+X3)", "(X3|a.0)", "((X3-a)-b)", "(X3:dd)", "a.X3", "t.A.b.X3", "X0"};
        for (String each : all) {
            breaks(each + " without X3", topped(each, "0=(b.0+X3)"));
        }
        keeps(1, "0", topped("0"));
        keeps(1, "a name that is not come to", topped("(a.X3-a)"));
        keeps(2, "a name that is told at last", topped("X3", "0=X3", "3=a.0"));
        keeps(1, "a name that is told to be nil", topped("X3", "3=0"));
    }

    /** "or not GUARDED" */
    private static void graphIfNotGuarded() {
        String[] all = {"X3", "(a.0+X3)", "(X3|a.0)", "(X3-a)", "(X3:ab)", "a.X3", "X0", "b.c.(d.0|X0)"};
        for (String each : all) {
            breaks(each + " with X3=(X3+a.0)", topped(each, "0=X3", "3=(X3+a.0)"));
            breaks(each + " with X3=X4", topped(each, "0=X3", "3=X4", "4=(a.0|X3)"));
            breaks(each + " with X3=X7, which is not told", topped(each, "0=X3", "3=(X7-a)"));
        }
        keeps(1, "a name that is not come to", topped("(a.X3-a)", "3=X3"));
        keeps(1, "a name that comes back behind a step", topped("X3", "3=X4", "4=t.X3"));
    }

    /** "(whichever is met first)": though 24 states are there already, or ahead of what would be one too many */
    private static void graphIfMetLater() {
        breaks("a name behind 22 steps", topped(STEPS_24.substring(2).replace("0", "X6")));
        breaks("a name as the state 23", topped(STEPS_24.replace("0", "X6")));
        keeps(24, "as it is told", topped(STEPS_24.replace("0", "X6"), "6=0"));
        breaks("a name and 25 states", topped(STEPS_24.replace("0", "X5"), "5=(a.0+X6)"));
    }

    private static void graphOfNil() {
        keeps(1, "0", topped("0"));
        keeps(1, "all that stands still", topped("(((0|0)+(0-a))|((0:ab)|X1))", "1=0"));
    }

    /** "HIDE what its TERM can, but ACTS of its CHANNEL": each act, by each channel; t has none */
    private static void hiddenActs() {
        for (int act = 0; act < 9; act++) {
            for (int channel = 0; channel < 4; channel++) {
                String term = "(" + LETTERS.charAt(act) + ".0-" + CHANNELS.charAt(channel) + ")";
                boolean isHidden = act != 0 && (act - 1) % 4 == channel;
                Edge.allowed(isHidden ? "" : LETTERS.charAt(act) + "1", "steps of " + term, graphed(term),
                        x -> x.steps(1, 0));
            }
        }
    }

    /** "RENAME .. (those of the second one stay as they are)": each act, by each two channels, also twice the same */
    private static void renamedActs() {
        for (int act = 0; act < 9; act++) {
            for (int pair = 0; pair < 16; pair++) {
                String term = "(" + LETTERS.charAt(act) + ".0:" + CHANNELS.charAt(pair / 4) + CHANNELS.charAt(pair % 4)
                        + ")";
                boolean isRenamed = act != 0 && (act - 1) % 4 == pair / 4;
                int due = isRenamed ? (act - 1) / 4 * 4 + pair % 4 + 1 : act;
                Edge.allowed(LETTERS.charAt(due) + "1", "steps of " + term, graphed(term), x -> x.steps(1, 0));
            }
        }
    }

    /** "if both can do PARTNERS, t": "to take and to offer on the same CHANNEL", each act with each */
    private static void partners() {
        for (int one = 0; one < 9; one++) {
            for (int other = 0; other < 9; other++) {
                String term = "(" + LETTERS.charAt(one) + ".0|" + LETTERS.charAt(other) + ".0)";
                boolean isTogether = one != 0 && other != 0 && Math.abs(one - other) == 4;
                int due = 2 + (isTogether ? 1 : 0);
                Edge.allowed(due, "how many steps " + term + " has", graphed(term), x -> x.ofState(1, 0, 0));
                Edge.allowed(isTogether || one == 0 || other == 0, "whether " + term + " goes by t", graphed(term),
                        x -> x.steps(1, 0).startsWith("t1"));
            }
        }
    }

    /** "BOUND of a GRAPH: 24 STATES": one behind the other; the last one goes on, or back, or to one too many */
    private static void statesInARow() {
        keeps(23, "23 states", topped(STEPS_24.substring(2)));
        keeps(24, "24 states", topped(STEPS_24));
        keeps(24, "24 states, the last one goes back", topped("X0", "0=" + STEPS_24.replace("0", "X1"), "1=a.X1"));
        keeps(24, "24 states, the last one is a name", topped(STEPS_24.replace("0", "X1"), "1=b.X1"));
        breaks("25 states", topped(STEPS_24.replace("0", "X1"), "1=b.0"));
        keeps(24, "24 states, from a name on", topped("X1", "1=" + STEPS_24.replace("0", "X0"), "0=0"));
        breaks("25 states, from a name on", topped("X1", "1=" + STEPS_24.replace("0", "X0"), "0=A.0"));
        breaks("states without an end", topped("X1", "1=a.(X1|0)"));
    }

    /** 24 states: 23 to which the first one goes. */
    private static Edge.House fan(String first) {
        return topped("((X0+X1)+(X2+X3))", "0=" + first, "1=((a.t.0+(a.a.0+a.b.0))+(a.c.0+(a.d.0+a.A.0)))",
                "2=((a.B.0+(a.C.0+a.D.0))+(a.t.X7+(a.a.X7+a.b.X7)))",
                "3=((a.c.X7+(a.d.X7+a.A.X7))+(a.B.X7+(a.C.X7+a.D.X7)))", "4=0", "5=0", "6=0", "7=0");
    }

    /** "24 STATES": all of them but one behind the first one */
    private static void statesOfOneState() {
        keeps(23, "22 of one", fan("((a.0+a.X4)+(a.X5+a.X7))"));
        keeps(24, "23 of one", fan("((a.0+a.X4)+(a.X5+(a.X6+a.X7)))"));
        keeps(24, "23 of one, to some by many acts", fan("((a.0+a.X4)+(a.X5+(a.X6+(a.X7+(b.X7+D.0)))))"));
        breaks("24 of one", fan("((a.0+a.X4)+(a.X5+(a.X6+(a.X7+a.(0+0)))))"));
        breaks("24 of one, the last one by the last act", fan("((a.0+a.X4)+(a.X5+(a.X6+(a.X7+D.(0+0)))))"));
    }

    private static void statesBeside() {
        keeps(24, "two by three by four", topped("((a.0|b.b.0)|c.c.c.0)"));
        breaks("five by five", topped("(a.a.a.a.0|b.b.b.b.0)"));
        keeps(24, "four by six", topped("(a.a.a.0|b.b.b.b.b.0)"));
    }

    /** "SIZE 48 of each" */
    private static void sizeOfStates() {
        String line = "0=a." + STILL_23.substring(1, STILL_23.length() - 3);
        String still = line.substring(4);
        keeps(4, "states up to the size 47", topped("(X0|X0)", line));
        keeps(4, "states up to the size 48", topped("((X0|X0)-d)", line));
        Edge.allowed("((" + still + "|" + still + ")-d)", "the state of the size 48", topped("((X0|X0)-d)", line),
                x -> x.graph(3) == 4 ? x.term(3, 3) : "");
        breaks("a state of the size 49", topped("(((X0|X0)-d)-d)", line));
        breaks("a state of the size 49, renamed", topped("(((X0|X0):ab)-d)", line));
        breaks("a state of the size 49, beside", topped("((X0|X0)|0)", line));
        breaks("a state of the size 49 behind a step", topped("b.(((X0|X0)-d)-d)", line));
        keeps(3, "a state of the size 48 at first", topped("(X0-b)", "0=c.X1", "1=c." + still));
    }

    /** "SIZE 48 of each": of states that grow step by step, ahead of the 24th state or with it */
    private static void sizeOfStatesThatGrow() {
        breaks("sizes of 1, 4, 7 up to 49", topped("X0", "0=a.(((X0-b)-b)-b)"));
        String most = "((((((((((((((((((((((";
        String first = "0=a." + most + "X1" + "-d)".repeat(22);
        String second = "1=b." + most + "X2" + "-d)".repeat(22);
        keeps(4, "sizes of 1, 23, 45, 48", topped("X0", first, second, "2=c.(((0-b)-b)-b)"));
        keeps(4, "sizes of 1, 23, 45, 48, the last one beside", topped("X0", first, second, "2=c.((0-b)|0)"));
        breaks("sizes of 1, 23, 45, 49", topped("X0", first, second, "2=c.((((0-b)-b)-b)-b)"));
        breaks("sizes of 1, 23, 45, 49, the last one beside", topped("X0", first, second, "2=c.((0|0)|0)"));
        breaks("sizes of 1, 23, 45, 49, the last one either", topped("X0", first, second, "2=c.((0+0)+0)"));
        breaks("sizes of 1, 23, 45, 49, the last one renamed",
                topped("X0", first, second, "2=c.((((0:ab):ab):ab):ab)"));
        breaks("sizes of 1, 23, 45, 49, the last one a row", topped("X0", first, second, "2=c.a.a.a.a.X1"));
    }

    /** Seven names that can do eight unlike things each, and an eighth that is told as asked for. */
    private static Edge.House wide(String term, String eighth) {
        String[] lines = new String[8];
        for (int k = 0; k < 7; k++) {
            String to = k == 0 ? "0" : "X" + (k - 1);
            lines[k] = k + "=(((a." + to + "+b." + to + ")+(c." + to + "+d." + to + "))+((A." + to + "+B." + to
                    + ")+(C." + to + "+D." + to + ")))";
        }
        lines[7] = "7=" + eighth;
        return topped(term, lines);
    }

    /** "and 60 unlike things (ACTS with TEXTS) that one of them can do" */
    private static void thingsOfAState() {
        String four = "((t.0+t.X0)+(t.X1+t.X2))";
        String five = "((t.0+t.X0)+((t.X1+t.X2)+t.X3))";
        keeps(8, "60 things", wide(SUM, four));
        Edge.allowed(60, "60 steps", wide(SUM, four), x -> x.graph(0) == 8 ? x.ofState(0, 0, 0) : 0);
        keeps(8, "60 things, some of them told twice", wide("((" + SUM + "+t.0)+(a.X5+D.0))", four));
        breaks("61 things", wide(SUM, five));
        breaks("61 things, the last one told last", wide("(" + SUM + "+a.X6)", four));
        breaks("61 things behind a step", wide("b." + SUM, five));
        keeps(9, "60 things behind a step", wide("b." + SUM, four));
    }

    /** "60 unlike things": those of both, and each t of both together */
    private static void thingsBeside() {
        String most = "((((X0+X1)+(X2+X3))+(X4+X5))+X7)";
        String four = "(t.0+(t.X0+(t.X1+t.X2)))";
        String five = "((t.0+t.X0)+(t.X1+(t.X2+t.X3)))";
        String six = "((t.0+t.X0)+(t.X1+(t.X2+(t.X3+t.X4))))";
        keeps(14, "48 and 4 things, one beside, six together", wide("(" + most + "|a.0)", four));
        keeps(14, "48 and 5 things, one beside, six together", wide("(" + most + "|a.0)", five));
        Edge.allowed(60, "60 steps", wide("(" + most + "|a.0)", five), x -> x.graph(0) == 14 ? x.ofState(0, 0, 0) : 0);
        breaks("48 and 6 things, one beside, six together", wide("(" + most + "|a.0)", six));
        keeps(14, "48 and 6 things, one beside that goes alone", wide("(" + most + "|t.0)", six));
    }

    /** "60 unlike things": those of one, and those of the other one, that do nothing together; all are hidden then */
    private static void thingsOfBothSides() {
        String hidden = "(((((((X0+X1)+(X2+X3))|((X0+X1)+(X2+X4)))-a)-b)-c)-d)";
        String turned = "(((((((X0+X1)+(X2+X4))|((X0+X1)+(X2+X3)))-a)-b)-c)-d)";
        String[] lines = new String[5];
        String[] to = {"X4", "X5", "X6", "X7", "X0", "X1", "X2", "X3"};
        for (int k = 0; k < 4; k++) {
            lines[k] = k + "=" + "((" + takes(to[2 * k]) + ")+(" + takes(to[2 * k + 1]) + "))";
        }
        lines[4] = "4=(" + takes("0") + ")";
        keeps(1, "32 things and 28", topped(hidden, lines));
        keeps(1, "28 things and 32", topped(turned, lines));
        lines[4] = "4=((" + takes("0") + ")+a.X2)";
        breaks("32 things and 29", topped(hidden, lines));
        breaks("29 things and 32", topped(turned, lines));
    }

    /** 48 unlike things, each of them once in each of eight terms around; none of them is come to. */
    private static void thingsOfManyTexts() {
        String[] lines = sixEach();
        keeps(1, "48 things in each of eight terms", topped("(((((((((" + SUM + ":bb)".repeat(8) + "-a)", lines));
        breaks("48 things in each of eight terms, not hidden", topped("((((((((" + SUM + ":bb)".repeat(8), lines));
    }

    /** Eight names that can do six things each by the same act, all of them unlike. */
    private static String[] sixEach() {
        String[] lines = new String[8];
        for (int k = 0; k < 8; k++) {
            String line = "";
            for (int i = 6 * k; i < 6 * k + 6; i++) {
                String step = "a." + LETTERS.charAt(i % 9) + "." + (i < 9 ? "0" : "X" + i / 9);
                line = line.isEmpty() ? step : "(" + step + "+" + line + ")";
            }
            lines[k] = k + "=" + line;
        }
        return lines;
    }

    /** What many terms in it could do, and all is hidden, changes nothing of what stands beside it. */
    private static void thingsBesideMany() {
        String[] lines = sixEach();
        lines[7] = "7=" + "(".repeat(10) + "(((X0+X1)+(X2+X3))+((X4+X5)+X6))" + ":bb)".repeat(9) + "-a)";
        String[] all = {"((a.b.0|c.(d.0+a.0))+(A.(b.0-b)+(D.0:da)))", "(((a.b.0+t.c.0)|(A.0+C.d.0))-b)",
            "((b.a.0|B.c.0):bd)", "(a.(b.0|c.0)+(a.(c.0|b.0)+t.(0+d.0)))"};
        for (String each : all) {
            Edge.House without = topped("(0|" + each + ")");
            Edge.House turned = topped("(" + each + "|0)");
            Edge.allowed(whole(without, "(X7|", "(0|"), "beside much: " + each, topped("(X7|" + each + ")", lines),
                    x -> x.graph(3) > 0 ? whole(x) : "");
            Edge.allowed(whole(turned, "|X7)", "|0)"), "beside much: " + each, topped("(" + each + "|X7)", lines),
                    x -> x.graph(3) > 0 ? whole(x) : "");
        }
    }

    /** "SIZE 48 of each": also as there is much that is hidden beside it */
    private static void sizeBesideMany() {
        String[] lines = sixEach();
        lines[5] = "5=" + "(".repeat(15) + "(((X0+X1)+(X2+X3))+X4)" + ":bb)".repeat(14) + "-a)";
        lines[6] = "6=a." + STILL_23.substring(2, STILL_23.length() - 6);
        lines[7] = "7=0";
        keeps(4, "states up to the size 47", topped("(X5|(X6|X6))", lines));
        keeps(4, "states up to the size 48", topped("((X5|(X6|X6))-d)", lines));
        breaks("a state of the size 49", topped("(((X5|(X6|X6))-d)-d)", lines));
        keeps(4, "states up to the size 48, turned", topped("(((X6|X6)|X5):cd)", lines));
        breaks("a state of the size 49, turned", topped("((((X6|X6)|X5):cd):cd)", lines));
    }

    /** All terms and steps of the graph that is made of the top, with another sign in the place of one of each. */
    private static String whole(Edge.House house, String sign, String before) {
        Twotalk x = house.made();
        x.graph(3);
        StringBuilder all = new StringBuilder();
        for (String line : whole(x).split("\n")) {
            int at = sign.startsWith("(") ? line.indexOf(before) : line.lastIndexOf(before);
            all.append(line, 0, at).append(sign).append(line.substring(at + before.length())).append('\n');
        }
        return all.toString();
    }

    private static String whole(Twotalk x) {
        StringBuilder all = new StringBuilder();
        for (int p = 0; p < x.ofGraph(3, 0); p++) {
            all.append(x.term(3, p)).append(" does ").append(x.steps(3, p)).append('\n');
        }
        return all.toString();
    }

    private static String takes(String to) {
        return "(a." + to + "+b." + to + ")+(c." + to + "+d." + to + ")";
    }

    /** "60 unlike things .. that one of them can do, or a TERM in it": as many in each of many */
    private static void thingsOfManyTerms() {
        String around = "(((((((((" + SUM + ":aa)".repeat(9);
        keeps(8, "60 things in each of ten", wide(around, "((t.0+t.X0)+(t.X1+t.X2))"));
        breaks("61 things in each of ten", wide(around, "((t.0+t.X0)+((t.X1+t.X2)+t.X3))"));
    }

    /** "or a TERM in it that does not stand behind a STEP" */
    private static void thingsOfATermInIt() {
        String four = "((t.0+t.X0)+(t.X1+t.X2))";
        String five = "((t.0+t.X0)+((t.X1+t.X2)+t.X3))";
        String[] around = {"(((" + SUM + "-a)-b)-c)", "(" + SUM + "-a)", "((" + SUM + "-d)|0)", "((" + SUM + "-b)+0)"};
        for (String each : around) {
            Edge.allowed(true, "60 things in " + each, wide(each, four), x -> x.graph(1) > 0);
            breaks("61 things in " + each, wide(each, five));
        }
        keeps(5, "60 things, of which those by t are left", wide("((((" + SUM + "-a)-b)-c)-d)", four));
        breaks("61 things, of which those by t are left", wide("((((" + SUM + "-a)-b)-c)-d)", five));
    }

    /** "or that a NAME means which is come to so" */
    private static void thingsOfWhatANameMeans() {
        String names = "(((X0+X1)+(X2+X3))+(X4+X5))+((X0:ab)+(X1:ab))";
        String hidden = "((((X7-a)-b)-c)-d)";
        keeps(1, "60 things of what a name means", wide(hidden, "(" + names + ")"));
        keeps(1, "60 things of what a name means, one of them twice", wide(hidden, "((" + names + ")+b.0)"));
        breaks("61 things of what a name means", wide(hidden, "((" + names + ")+t.0)"));
        breaks("61 things of what a name means", wide("X7", "((" + names + ")+t.0)"));
        breaks("61 things in what a name means", wide("X7", "((((((" + names + ")+t.0)-a)-b)-c)-d)"));
    }

    /** "that does not stand behind a STEP": what stands there, and is not come to, may be as it likes */
    private static void thingsBehindAStep() {
        String five = "((t.0+t.X0)+((t.X1+t.X2)+t.X3))";
        keeps(1, "61 things that are not come to", wide("(b." + SUM + "-b)", five));
        keeps(1, "a name not come to, of 61 things", wide("(b.X7-b)",
                "(((((X0+X1)+(X2+X3))+(X4+X5))+((X0:ab)+(X1:ab)))+t.0)"));
        keeps(1, "a state not come to, of the size 49", topped("(c.(((X0|X0)-d)-d)-c)",
                "0=a." + STILL_23.substring(1, STILL_23.length() - 3)));
    }

    private static void graphOnAFullStack() {
        Edge.House full = () -> {
            Twotalk x = topped("0", "3=a.X3").made();
            for (int k = 2; k < 8; k++) {
                x.name(3);
            }
            return x;
        };
        Edge.allowed("1 7", "graph on eight", full, x -> x.graph(0) + " " + x.house(0));
        Edge.refused(Due.STATE, "a ninth", full, Twotalk::nil);
    }

    /** "An object is used for at most 512 calls": some 220 for many graphs, each of near to as much as may be */
    private static void graphsWithoutAnEnd() {
        String most = "(((X0+X1)+(X2+X3))+((X4+X5)+X6))";
        Edge.House house = wide("(((((((((" + most + ":aa)".repeat(9), "((((((((((" + most + ":bb)".repeat(10));
        Edge.allowed("8 8 56", "the last of 110 graphs", house, x -> {
            for (int i = 0; i < 109; i++) {
                x.name(7);
                x.graph(i % 4);
            }
            return x.graph(2) + " " + x.ofGraph(2, 0) + " " + x.ofState(2, 0, 0);
        });
    }

    /** A house in which there is no room for more on the stack and on the desk, nor a name that is not told. */
    private static Twotalk fullHouse() {
        Twotalk x = Due.house(ALL_TOLD);
        Due.graph(x, 0, STEPS_24);
        Due.graph(x, 1, STEPS_24);
        Due.graph(x, 2, STEPS_24);
        Due.graph(x, 3, STEPS_24);
        for (int i = 0; i < 8; i++) {
            x.name(7 - i);
        }
        for (int i = 0; i < 6; i++) {
            x.say(0, 0);
        }
        return x;
    }

    /** "Throws IndexOutOfBoundsException if k is not 0 to 4" */
    private static void exampleNumber() {
        Edge.range(Due.INDEX, 0, 4, "example", Twotalk::new, Twotalk::example);
        Edge.outside(Due.INDEX, 0, 4, "example in a full house", BoundsOfGraphsTest::fullHouse, Twotalk::example);
        int[] due = {7, 9, 7, 4, 6};
        for (int k = 0; k <= 4; k++) {
            int asked = k;
            Edge.allowed(due[k], "example(" + k + ")", Twotalk::new, x -> x.example(asked));
        }
    }

    /** "An example tells NAMES, and makes the GRAPHS 0 and 1 (STACK, DESK and the other GRAPHS stay)" */
    private static void exampleInAFullHouse() {
        int[] due = {7, 9, 7, 4, 6};
        int[] told = {5, 4, 0, 2, 0};
        for (int k = 0; k <= 4; k++) {
            int asked = k;
            Edge.allowed(due[k] + " 8 8 8 6 24 24 X0 X7 T", "example(" + k + ") in a full house",
                    BoundsOfGraphsTest::fullHouse, x -> x.example(asked) + " " + x.house(0) + " " + x.house(1) + " "
                            + x.house(2) + " " + x.house(5) + " " + x.ofGraph(2, 0) + " " + x.ofGraph(3, 0) + " "
                            + x.text(0) + " " + x.text(7) + " " + x.said());
            for (int name = 0; name < 8; name++) {
                int at = name;
                Edge.allowed(at >= told[k], "X" + name + " stays at the example " + k, BoundsOfGraphsTest::fullHouse,
                        x -> x.example(asked) > 0 && x.meant(at).equals("b.0"));
            }
        }
    }

    /** "Throws IndexOutOfBoundsException if n or to is not 0 to 3" "(may be n)" */
    private static void smallestNumbers() {
        Edge.House house = graphed("(a.b.0+a.(0|b.0))");
        Edge.range(Due.INDEX, 0, 3, "smallest of", house, (x, n) -> x.smallest(n, 1));
        Edge.range(Due.INDEX, 0, 3, "smallest to", house, (x, to) -> x.smallest(1, to));
        Edge.range(Due.INDEX, 0, 3, "smallest of and to", house, (x, n) -> x.smallest(n, n));
        Edge.allowed("3 a1 b2  5", "smallest to itself", house, x -> x.smallest(1, 1) + " " + x.steps(1, 0) + " "
                + x.steps(1, 1) + " " + x.steps(1, 2) + " " + (x.ofGraph(2, 0) + x.ofGraph(1, 0)));
        Edge.allowed("3 5 3", "smallest to the last one", house,
                x -> x.smallest(1, 3) + " " + x.ofGraph(1, 0) + " " + x.ofGraph(3, 0));
        Edge.refused(Due.INDEX, "a state that is no longer one", () -> {
            Twotalk x = house.made();
            x.smallest(1, 1);
            return x;
        }, x -> x.term(1, 3));
    }

    /** "as many as there are unlike ones": of one state, of 24 like ones, of 24 unlike ones */
    private static void smallestOfOneAndOfAll() {
        Edge.allowed("1 0 ", "smallest of nil", graphed("a.0"),
                x -> x.smallest(0, 3) + " " + x.term(3, 0) + " " + x.steps(3, 0));
        Edge.allowed(24, "smallest of 24 unlike ones", graphed(STEPS_24), x -> x.smallest(1, 3));
        Edge.House last = graphed(STEPS_24.replace("0", "X1"), "1=D.X1");
        Edge.allowed("24 a23 D23 X1", "smallest of 24 unlike ones, the last of which goes on", last,
                x -> x.smallest(1, 3) + " " + x.steps(3, 22) + " " + x.steps(3, 23) + " " + x.term(3, 23));
        Edge.House back = graphed("X1", "1=" + STEPS_24.replace("0", "X2"), "2=(b.X1+c.X2)");
        Edge.allowed("24 a1 b0 c23 24", "smallest of 24 unlike ones, the last of which goes back", back,
                x -> x.smallest(1, 1) + " " + x.steps(1, 0) + " " + x.steps(1, 23) + " " + x.ofState(1, 23, 4));
        Edge.allowed("1 a0 X0", "smallest of 24 like ones",
                graphed("X0", "0=" + STEPS_24.replace("0", "X1"), "1=a.X1"),
                x -> x.smallest(1, 1) + " " + x.steps(1, 0) + " " + x.term(1, 0));
    }

    /** "Throws IndexOutOfBoundsException if n is not 0 to 3", then "IllegalArgumentException if what is not 0 to 5" */
    private static void ofGraphNumbers() {
        Edge.House house = graphed("(a.b.0+t.0)");
        Edge.range(Due.INDEX, 0, 3, "ofGraph", house, (x, n) -> x.ofGraph(n, 5));
        Edge.range(Due.ARGUMENT, 0, 5, "ofGraph, what", house, (x, what) -> x.ofGraph(1, what));
        Edge.outside(Due.INDEX, 0, 3, "ofGraph, and no such what", house, (x, n) -> x.ofGraph(n, 6));
        Edge.outside(Due.INDEX, 0, 3, "ofGraph, and no such what", house, (x, n) -> x.ofGraph(n, -1));
    }

    private static void ofGraphOfNoneAndOfAll() {
        int[] none = {1, 0, 1, 0, 0, 0};
        int[] one = {1, 9, 0, 1, 511, 1};
        int[] row = {24, 23 + 9, 0, 1, 511, 1};
        for (int what = 0; what < 6; what++) {
            int asked = what;
            Edge.allowed(none[what], "ofGraph(0, " + what + ") of nil", Twotalk::new, x -> x.ofGraph(0, asked));
            Edge.allowed(one[what], "ofGraph(1, " + what + ") of all acts", allActs("X1"), x -> x.ofGraph(1, asked));
            Edge.allowed(row[what], "ofGraph(1, " + what + ") of a row to all acts", allActs("X0"),
                    x -> x.ofGraph(1, asked));
        }
        Edge.allowed("t23 a23 b23 c23 d23 A23 B23 C23 D23", "all acts", allActs("X0"), x -> x.steps(1, 23));
    }

    /** X1 does all acts, and is itself then; X0 comes to it by 23 steps. */
    private static Edge.House allActs(String term) {
        return graphed(term, "0=" + STEPS_24.replace("0", "X1"), "1=(((t.X1+a.X1)+(b.X1+c.X1))+X2)",
                "2=((d.X1+A.X1)+(B.X1+(C.X1+D.X1)))");
    }

    /** "if n is not 0 to 3, or there is no such STATE", then "IllegalArgumentException if what is not 0 to 5" */
    private static void ofStateNumbers() {
        Edge.House house = graphed("(a.b.0+t.0)");
        Edge.range(Due.INDEX, 0, 3, "ofState, the graph", house, (x, n) -> x.ofState(n, 0, 0));
        Edge.range(Due.INDEX, 0, 2, "ofState of three", house, (x, p) -> x.ofState(1, p, 5));
        Edge.range(Due.INDEX, 0, 1, "ofState of two", house, (x, p) -> x.ofState(2, p, 5));
        Edge.range(Due.INDEX, 0, 0, "ofState of one", house, (x, p) -> x.ofState(0, p, 5));
        Edge.range(Due.INDEX, 0, 23, "ofState of 24", graphed(STEPS_24), (x, p) -> x.ofState(1, p, 5));
        Edge.range(Due.ARGUMENT, 0, 5, "ofState, what", house, (x, what) -> x.ofState(1, 2, what));
        Edge.outside(Due.INDEX, 0, 3, "ofState, and no such what", house, (x, n) -> x.ofState(n, 0, 6));
        Edge.outside(Due.INDEX, 0, 2, "ofState, and no such what", house, (x, p) -> x.ofState(1, p, -1));
    }

    private static void ofStateOfNoneAndOfAll() {
        int[] none = {0, 0, 0, 1, 1, 0};
        int[] first = {1, 2, 0, 0, 24, 23};
        int[] all = {9, 510, 1, 0, 1, -1};
        for (int what = 0; what < 6; what++) {
            int asked = what;
            Edge.allowed(none[what], "ofState(0, 0, " + what + ") of nil", Twotalk::new, x -> x.ofState(0, 0, asked));
            Edge.allowed(none[what], "of the last of 24, " + what, graphed(STEPS_24), x -> x.ofState(1, 23, asked));
            Edge.allowed(first[what], "of the first of 24, " + what, graphed(STEPS_24), x -> x.ofState(1, 0, asked));
            Edge.allowed(all[what], "of one with all acts, " + what, allActs("X1"), x -> x.ofState(1, 0, asked));
        }
    }

    /** "or there is no such STATE": not as there was one in a larger graph ahead of this one */
    private static void statesThatWereThere() {
        Edge.House house = () -> {
            Twotalk x = graphed(STEPS_24).made();
            Due.graph(x, 1, "b.0");
            Due.graph(x, 0, STEPS_24);
            Due.graph(x, 0, "b.b.0");
            return x;
        };
        Edge.range(Due.INDEX, 0, 1, "term of two", house, (x, p) -> x.term(1, p));
        Edge.range(Due.INDEX, 0, 2, "steps of three", house, (x, p) -> x.steps(0, p));
        Edge.range(Due.INDEX, 0, 2, "isAlike of three", house, (x, p) -> x.isAlike(4, 0, p, 1, 0));
        Edge.range(Due.INDEX, 0, 1, "isAlike with two", house, (x, q) -> x.isAlike(4, 0, 0, 1, q));
        Edge.allowed("b1  5 3", "what is there", house, x -> x.steps(1, 0) + " " + x.steps(1, 1) + " "
                + (x.ofGraph(0, 0) + x.ofGraph(1, 0)) + " " + (x.ofGraph(0, 1) + x.ofGraph(1, 1)));
    }

    /** "if n is not 0 to 3, or there is no such STATE" (steps, term) "\"\" without any" */
    private static void stepsAndTermNumbers() {
        Edge.House house = graphed("(a.b.0+t.0)");
        Edge.range(Due.INDEX, 0, 3, "steps, the graph", house, (x, n) -> x.steps(n, 0));
        Edge.range(Due.INDEX, 0, 2, "steps of three", house, (x, p) -> x.steps(1, p));
        Edge.range(Due.INDEX, 0, 23, "steps of 24", graphed(STEPS_24), (x, p) -> x.steps(1, p));
        Edge.range(Due.INDEX, 0, 3, "term, the graph", house, (x, n) -> x.term(n, 0));
        Edge.range(Due.INDEX, 0, 2, "term of three", house, (x, p) -> x.term(1, p));
        Edge.range(Due.INDEX, 0, 23, "term of 24", graphed(STEPS_24), (x, p) -> x.term(1, p));
        Edge.allowed("t1 a2//b1", "steps", house, x -> x.steps(1, 0) + "/" + x.steps(1, 1) + "/" + x.steps(1, 2));
        Edge.allowed("a23//0", "steps to the last one", graphed(STEPS_24),
                x -> x.steps(1, 22) + "/" + x.steps(1, 23) + "/" + x.term(1, 23));
    }

    /** "Throws IndexOutOfBoundsException if n is not 0 to 3" (which) */
    private static void whichNumber() {
        Edge.range(Due.INDEX, 0, 3, "which are still", graphed("a.0"), (x, n) -> x.which(n, false));
        Edge.range(Due.INDEX, 0, 3, "which diverge", graphed("a.0"), (x, n) -> x.which(n, true));
    }

    private static void whichOfNoneAndOfAll() {
        String each = "0 1 2 3 4 5 6 7 8 9 10 11 12 13 14 15 16 17 18 19 20 21 22 23";
        Edge.House diverging = graphed("X0", "0=" + STEPS_24.replace("a", "t").replace("0", "X1"), "1=t.X1");
        Edge.allowed(each, "which diverge, of 24", diverging, x -> x.which(1, true));
        Edge.allowed("", "which are still, of 24 that diverge", diverging, x -> x.which(1, false));
        Edge.allowed("0", "which are still, of nil", diverging, x -> x.which(0, false));
        Edge.allowed("", "which diverge, of nil", diverging, x -> x.which(0, true));
        Edge.allowed("23", "which are still, of a row", graphed(STEPS_24), x -> x.which(1, false));
        Edge.allowed("", "which diverge, of a row", graphed(STEPS_24), x -> x.which(1, true));
        Edge.allowed("", "which diverge, of a row by t", graphed(STEPS_24.replace("a", "t")), x -> x.which(1, true));
    }

    /** "Throws IndexOutOfBoundsException if n is not 0 to 3, or act not 0 to 8" */
    private static void isEverAgainNumbers() {
        Edge.House house = graphed("X0", "0=(a.X0+D.X0)");
        Edge.range(Due.INDEX, 0, 3, "isEverAgain, the graph", house, (x, n) -> x.isEverAgain(n, 0));
        Edge.range(Due.INDEX, 0, 8, "isEverAgain by", house, (x, act) -> x.isEverAgain(1, act));
        for (int act = 0; act <= 8; act++) {
            int asked = act;
            Edge.allowed(act == 1 || act == 8, "isEverAgain by " + act, house, x -> x.isEverAgain(1, asked));
        }
    }

    private static void isEverAgainOfNil() {
        Edge.allowed(false, "of nil", Twotalk::new, x -> x.isEverAgain(0, 0));
        Edge.allowed(false, "of one that ends at last", graphed(STEPS_24), x -> x.isEverAgain(1, 1));
        Edge.allowed(true, "of one whose last state goes on", graphed(STEPS_24.replace("0", "X1"), "1=a.X1"),
                x -> x.isEverAgain(1, 1));
        Edge.allowed(true, "only at the last one", graphed(STEPS_24.replace("0", "X1"), "1=D.X1"),
                x -> x.isEverAgain(1, 8));
        Edge.allowed(false, "no longer at the last one", graphed(STEPS_24.replace("0", "X1"), "1=D.X1"),
                x -> x.isEverAgain(1, 1));
    }
}
