/** The bounds that section 3, the half of section 4 on what parts, and the promises 23 to 29 name. */
public final class BoundsOfLooksTest {
    private static final String STEPS_24 = "a.a.a.a.a.a.a.a.a.a.a.a.a.a.a.a.a.a.a.a.a.a.a.0";

    public static void main(String[] args) {
        graphAndStateNumbers();
        statesOf24();
        numbersFirst();
        lookNumber();
        wordsUpTo300Pairs();
        wordsAsOneIsLookedAt();
        wordParts300th();
        refusalParts300th();
        wordsAheadOfTheBound();
        boundOfTheFirstTwoLooksAlone();
        roundZeroAndNone();
        roundsOfFarStates();
        roundsInEachGraph();
        lateRound();
        wordOfNoneAndOfOne();
        refusalOfEmptyWordAndSet();
        refusalOfTheLargestSet();
        sentenceIfAlike();
        sentenceUpTo400();
        sentenceWithoutAnswers();
        gameIfAlike();
        gameWithoutAnswers();
        classesNumbers();
        classesOfOneAndOfAll();
        Due.end();
    }

    private interface Four {
        Object of(Twotalk x, int n, int p, int m, int q);
    }

    private static final Four[] CALLS = {
        (x, n, p, m, q) -> x.isAlike(0, n, p, m, q), (x, n, p, m, q) -> x.isAlike(1, n, p, m, q),
        (x, n, p, m, q) -> x.isAlike(2, n, p, m, q), (x, n, p, m, q) -> x.isAlike(3, n, p, m, q),
        (x, n, p, m, q) -> x.isAlike(4, n, p, m, q), (x, n, p, m, q) -> x.round(n, p, m, q, false),
        (x, n, p, m, q) -> x.round(n, p, m, q, true), Twotalk::word, Twotalk::refusal,
        (x, n, p, m, q) -> x.sentence(n, p, m, q, false), (x, n, p, m, q) -> x.sentence(n, p, m, q, true),
        Twotalk::game};
    private static final String[] NAMES = {"isAlike by 0", "isAlike by 1", "isAlike by 2", "isAlike by 3",
        "isAlike by 4", "round", "round unseen", "word", "refusal", "sentence", "sentence unseen", "game"};

    /** Four graphs that are unlike, and something on the stack and on the desk. */
    private static Twotalk four() {
        Twotalk x = Due.house("6=X7");
        Due.graph(x, 0, "a.0");
        Due.graph(x, 1, "a.b.0");
        Due.graph(x, 2, "a.c.d.0");
        Due.graph(x, 3, "A.d.c.b.0");
        Due.put(x, "(X6|0)");
        Due.say(x, "{t}T");
        return x;
    }

    private static Edge.House two(String one, String other, String... lines) {
        return () -> {
            Twotalk x = Due.house(lines);
            Due.graph(x, 0, one);
            Due.graph(x, 1, other);
            return x;
        };
    }

    /** "Throws IndexOutOfBoundsException if n or m is not 0 to 3, or there is no such STATE as p or q" */
    private static void graphAndStateNumbers() {
        Edge.House house = BoundsOfLooksTest::four;
        for (int i = 0; i < CALLS.length; i++) {
            Four call = CALLS[i];
            Edge.range(Due.INDEX, 0, 3, NAMES[i] + ", n", house, (x, n) -> call.of(x, n, 0, 1, 1));
            Edge.range(Due.INDEX, 0, 3, NAMES[i] + ", m", house, (x, m) -> call.of(x, 1, 1, m, 0));
            Edge.range(Due.INDEX, 0, 1, NAMES[i] + ", p of two", house, (x, p) -> call.of(x, 0, p, 3, 0));
            Edge.range(Due.INDEX, 0, 1, NAMES[i] + ", q of two", house, (x, q) -> call.of(x, 3, 0, 0, q));
            Edge.range(Due.INDEX, 0, 4, NAMES[i] + ", p of five", house, (x, p) -> call.of(x, 3, p, 0, 0));
            Edge.range(Due.INDEX, 0, 4, NAMES[i] + ", q of five", house, (x, q) -> call.of(x, 0, 0, 3, q));
        }
    }

    /** "there is no such STATE as p or q": of graphs of 24 states the last one is the state 23 */
    private static void statesOf24() {
        Edge.House house = two(STEPS_24, STEPS_24.replace("a.0", "b.a.0").substring(2), "0=0");
        for (int i = 0; i < CALLS.length; i++) {
            Four call = CALLS[i];
            Edge.range(Due.INDEX, 0, 23, NAMES[i] + ", p of 24", house, (x, p) -> call.of(x, 0, p, 1, 21));
            Edge.range(Due.INDEX, 0, 23, NAMES[i] + ", q of 24", house, (x, q) -> call.of(x, 1, 21, 0, q));
        }
    }

    /** "if several apply, the one that is named first is thrown": numbers first, though both are alike */
    private static void numbersFirst() {
        Edge.House house = pairs(21);
        for (int i = 0; i < CALLS.length; i++) {
            Four call = CALLS[i];
            Edge.refused(Due.INDEX, NAMES[i] + " of the states 9 of nil", house, x -> call.of(x, 2, 9, 2, 9));
            Edge.refused(Due.INDEX, NAMES[i] + " of the graphs 4", house, x -> call.of(x, 4, 0, 4, 0));
            Edge.refused(Due.INDEX, NAMES[i] + " past the bound, p", house, x -> call.of(x, 0, 21, 1, 0));
            Edge.refused(Due.INDEX, NAMES[i] + " past the bound, q", house, x -> call.of(x, 0, 0, 1, 22));
            Edge.refused(Due.INDEX, NAMES[i] + " past the bound, m", house, x -> call.of(x, 0, 0, -1, 0));
        }
    }

    /** "Throws IllegalArgumentException if look is not 0 to 4", behind the numbers, ahead of the bound of words */
    private static void lookNumber() {
        Edge.House house = BoundsOfLooksTest::four;
        Edge.range(Due.ARGUMENT, 0, 4, "look", house, (x, look) -> x.isAlike(look, 0, 0, 1, 0));
        Edge.range(Due.ARGUMENT, 0, 4, "look of one with itself", house, (x, look) -> x.isAlike(look, 2, 1, 2, 1));
        Edge.outside(Due.INDEX, 0, 3, "no such look, n", house, (x, n) -> x.isAlike(5, n, 0, 1, 0));
        Edge.outside(Due.INDEX, 0, 3, "no such look, m", house, (x, m) -> x.isAlike(-1, 0, 0, m, 0));
        Edge.outside(Due.INDEX, 0, 1, "no such look, p", house, (x, p) -> x.isAlike(-1, 0, p, 1, 0));
        Edge.outside(Due.INDEX, 0, 1, "no such look, q", house, (x, q) -> x.isAlike(5, 1, 0, 0, q));
        Edge.outside(Due.ARGUMENT, 0, 4, "look past the bound", pairs(21), (x, look) -> x.isAlike(look, 0, 0, 1, 0));
    }

    private static String row(String act, int count, String end) {
        return (act + ".").repeat(count) + end;
    }

    /**
     * The words a, aa, .. come to 1 + 280 sets of the graph 0 (5 by 7 by 8 go round), and to as many other ones of
     * the graph 1 as it has steps ahead of its end, which goes round alone: 280 pairs, and one for each such step.
     */
    private static Edge.House pairs(int steps) {
        return two("(t.X1+(t.X2+t.X3))", row("a", steps, "X4"), "1=" + row("a", 5, "X1"), "2=" + row("a", 7, "X2"),
                "3=" + row("a", 8, "X3"), "4=a.X4");
    }

    /** "As a 301st would be put there, the BOUND is not kept." */
    private static void wordsUpTo300Pairs() {
        for (int steps : new int[] {1, 19, 20}) {
            for (int look = 0; look <= 1; look++) {
                int asked = look;
                Edge.allowed(true, 280 + steps + " pairs, look " + look, pairs(steps),
                        x -> x.isAlike(asked, 0, 0, 1, 0));
                Edge.allowed(true, 280 + steps + " pairs, look " + look, pairs(steps),
                        x -> x.isAlike(asked, 1, 0, 0, 0));
            }
            Edge.refused(Due.ELEMENT, 280 + steps + " pairs, word", pairs(steps), x -> x.word(0, 0, 1, 0));
            Edge.refused(Due.ELEMENT, 280 + steps + " pairs, refusal", pairs(steps), x -> x.refusal(0, 0, 1, 0));
        }
        for (int steps : new int[] {21, 22}) {
            Edge.refused(Due.STATE, 280 + steps + " pairs", pairs(steps), x -> x.isAlike(0, 0, 0, 1, 0));
            Edge.refused(Due.STATE, 280 + steps + " pairs", pairs(steps), x -> x.isAlike(1, 0, 0, 1, 0));
            Edge.refused(Due.STATE, 280 + steps + " pairs, turned", pairs(steps), x -> x.isAlike(0, 1, 0, 0, 0));
            Edge.refused(Due.STATE, 280 + steps + " pairs, turned", pairs(steps), x -> x.isAlike(1, 1, 0, 0, 0));
            Edge.refused(Due.STATE, 280 + steps + " pairs, word", pairs(steps), x -> x.word(0, 0, 1, 0));
            Edge.refused(Due.STATE, 280 + steps + " pairs, refusal", pairs(steps), x -> x.refusal(1, 0, 0, 0));
            Edge.allowed(true, "of a later state there are fewer", pairs(steps), x -> x.isAlike(0, 0, 0, 1, 2));
        }
    }

    /** Some states one behind the other by b, from a name on; all but one can do a, too. */
    private static String[] beads(int name, int count, int hole, String end) {
        String[] lines = new String[(count + 4) / 5];
        for (int first = 0; first < count; first += 5) {
            int last = Math.min(count, first + 5) - 1;
            String line = last == count - 1 ? end : "X" + (name + first / 5 + 1);
            for (int at = last; at >= first; at--) {
                line = at == hole ? "b." + line : "(b." + line + "+a.0)";
            }
            lines[first / 5] = name + first / 5 + "=" + line;
        }
        return lines;
    }

    /**
     * After the word of so many b, and no fewer, all of the graph 0 are where they can't do a. Both can do c, too, and
     * then c for ever, but the graph 1 goes round only behind some steps.
     */
    private static Twotalk holed(int word, int one, int two, int three, int steps) {
        Twotalk x = new Twotalk();
        Due.told(x, "6=c.X6", "7=(b.X7+a.0)");
        Due.graph(x, 1, steps == 0 ? "X7" : "(X7+" + row("c", steps, "X6)"));
        Due.told(x, beads(0, one, word % one, "X0"));
        Due.told(x, beads(2, two, word % two, "X2"));
        Due.told(x, beads(4, three, word % three, "X4"));
        Due.graph(x, 0, (steps == 0 ? "(" : "(c.X6+(") + "(a.0+t.X0)+(t.X2+t.X4)" + (steps == 0 ? ")" : "))"));
        return x;
    }

    /**
     * "a pair is looked at as its turn comes": the word of w b is the pair w + 2, behind it come that of one a more,
     * in which both differ, as the pair w + 3, and that of one b more; only then that of the a is looked at.
     */
    private static void wordsAsOneIsLookedAt() {
        Edge.House last = () -> holed(296, 5, 7, 9, 0);
        Edge.House next = () -> holed(297, 5, 7, 9, 0);
        Edge.allowed(row("b", 296, "a").replace(".", ""), "299th, behind which is a 300th", last,
                x -> x.word(0, 0, 1, 0));
        Edge.allowed(row("b", 296, "a").replace(".", ""), "the same turned", last, x -> x.word(1, 0, 0, 0));
        Edge.allowed(false, "299th, behind which is a 300th", last, x -> x.isAlike(0, 0, 0, 1, 0));
        Edge.refused(Due.STATE, "300th, behind which is a 301st", next, x -> x.word(0, 0, 1, 0));
        Edge.refused(Due.STATE, "the same turned", next, x -> x.word(1, 0, 0, 0));
        Edge.refused(Due.STATE, "300th, behind which is a 301st", next, x -> x.isAlike(0, 0, 0, 1, 0));
        Edge.allowed(row("b", 295, "a").replace(".", ""), "298th", () -> holed(295, 5, 7, 9, 0),
                x -> x.word(0, 0, 1, 0));
    }

    /**
     * "and the pair was not there before": the word without acts, those of 1 to 280 b, a, and those of 1 to 17 c come
     * to 299 pairs; behind the last b all others have come round, and the one in which both differ is the 300th.
     */
    private static void wordParts300th() {
        Edge.House last = () -> holed(280, 5, 7, 8, 17);
        Edge.House next = () -> holed(280, 5, 7, 8, 18);
        String due = row("b", 280, "a").replace(".", "");
        Edge.allowed(due, "the 300th parts", last, x -> x.word(0, 0, 1, 0));
        Edge.allowed(due, "the 300th parts, turned", last, x -> x.word(1, 0, 0, 0));
        Edge.allowed(false, "the 300th parts", last, x -> x.isAlike(0, 1, 0, 0, 0));
        Edge.refused(Due.STATE, "the 301st would part", next, x -> x.word(0, 0, 1, 0));
        Edge.refused(Due.STATE, "the 301st would part, turned", next, x -> x.isAlike(0, 1, 0, 0, 0));
    }

    /** After the word of so many a, and no fewer, all of the graph 0 can do b; of the graph 1 one always can't. */
    private static Edge.House willing(int word) {
        String one = "0=" + row("a", word % 5, "(" + row("a", 5 - word % 5, "X0+b.0)"));
        String two = "1=" + row("a", word % 7, "(" + row("a", 7 - word % 7, "X1+b.0)"));
        String three = "2=" + row("a", word % 9, "(" + row("a", 9 - word % 9, "X2+b.0)"));
        return two("(t.X0+(t.X1+(t.X2+t.X3)))", "(t.X4+t.X5)", one, two, three, "3=(a.X3+b.0)",
                "4=(a.X4+(a.X5+b.0))", "5=(a.X4+a.X5)");
    }

    /** "This ends as a pair is looked at in which both differ." of refusals, as the 300th and as the 301st one */
    private static void refusalParts300th() {
        String due = row("a", 298, "").replace(".", "") + ":4";
        Edge.allowed(due, "the 300th parts", willing(298), x -> x.refusal(0, 0, 1, 0));
        Edge.allowed(due, "the 300th parts, turned", willing(298), x -> x.refusal(1, 0, 0, 0));
        Edge.allowed(false, "the 300th parts", willing(298), x -> x.isAlike(1, 0, 0, 1, 0));
        Edge.refused(Due.STATE, "the words alone are gone through to a 301st", willing(298), x -> x.word(0, 0, 1, 0));
        Edge.refused(Due.STATE, "the 301st would part", willing(299), x -> x.refusal(0, 0, 1, 0));
        Edge.refused(Due.STATE, "the 301st would part, turned", willing(299), x -> x.isAlike(1, 1, 0, 0, 0));
    }

    /** "This ends as a pair is looked at": what parts ahead of the bound is found, though there are more than 300 */
    private static void wordsAheadOfTheBound() {
        Edge.House house = pairs(22);
        Edge.allowed("a", "the first word parts", house, x -> x.word(0, 0, 2, 0));
        Edge.allowed(":2", "the word without acts parts", house, x -> x.refusal(2, 0, 1, 0));
        Edge.allowed(false, "the first word parts", house, x -> x.isAlike(0, 0, 0, 2, 0));
        Edge.refused(Due.ELEMENT, "both have but the word without acts", house, x -> x.word(2, 0, 3, 0));
    }

    /** "Throws IllegalStateException if the BOUND of WORDS is not kept (0 and 1 alone)" */
    private static void boundOfTheFirstTwoLooksAlone() {
        Edge.House house = pairs(22);
        for (int look = 2; look <= 4; look++) {
            int asked = look;
            Edge.allowed(look < 4, "look " + look + " past the bound of words", house,
                    x -> x.isAlike(asked, 0, 0, 1, 0));
            Edge.allowed(false, "look " + look + " past the bound of words", () -> holed(297, 5, 7, 9, 0),
                    x -> x.isAlike(asked, 0, 0, 1, 0));
        }
        Edge.allowed(true, "isSound past the bound of words", house, Twotalk::isSound);
    }

    /** "At the ROUND 0 all STATES of all GRAPHS are alike." "NONE, if they are alike" */
    private static void roundZeroAndNone() {
        for (boolean isUnseen : new boolean[] {false, true}) {
            Edge.allowed(-1, "round of nil with itself", Twotalk::new, x -> x.round(0, 0, 0, 0, isUnseen));
            Edge.allowed(-1, "round of nil and nil", Twotalk::new, x -> x.round(0, 0, 3, 0, isUnseen));
            Edge.allowed(1, "round of the most unlike", two("0", "D.0"), x -> x.round(0, 0, 1, 0, isUnseen));
            Edge.allowed(1, "round of one graph", two("0", "D.0"), x -> x.round(1, 1, 1, 0, isUnseen));
            Edge.allowed(-1, "round of one graph", two("0", "(D.0|0)"), x -> x.round(1, 1, 0, 0, isUnseen));
            Edge.allowed(23, "round of the first of 24 and the next one", two(STEPS_24, "0"),
                    x -> x.round(0, 0, 0, 1, isUnseen));
            Edge.allowed(24, "round of 24 in a row and of one that goes round", two(STEPS_24, "X0", "0=a.X0"),
                    x -> x.round(0, 0, 1, 0, isUnseen));
        }
        Edge.allowed(1, "round by t", two("t.0", "0"), x -> x.round(0, 0, 1, 0, false));
        Edge.allowed(-1, "round by t, unseen", two("t.0", "0"), x -> x.round(0, 0, 1, 0, true));
    }

    /** "STATES of all GRAPHS": a step to what is alike with one there, and a step to what is alike with one far away */
    private static void roundsOfFarStates() {
        for (int i = 0; i < 20; i++) {
            int n = i < 7 ? 2 : 3;
            int p = i < 7 ? 15 + i : i - 7;
            Edge.House house = () -> {
                Twotalk x = new Twotalk();
                Due.graph(x, 0, row("d", n == 2 ? p - 15 : p + 9, "b.0"));
                Due.graph(x, n, row("a", p + 1, "c.0"));
                Due.graph(x, 5 - n, "a.b.0");
                return x;
            };
            for (int look = 0; look <= 4; look++) {
                int asked = look;
                Edge.allowed(false, "look " + look + " of the state " + p + " of " + n, house,
                        x -> x.isAlike(asked, n, p, 5 - n, 0));
            }
            Edge.allowed(2, "round of the state " + p + " of " + n, house, x -> x.round(5 - n, 0, n, p, false));
            Edge.allowed(2, "round of the state " + p + " of " + n, house, x -> x.round(n, p, 5 - n, 0, true));
        }
    }

    /** The same in each of the graphs: one that comes to two, and two that come to one of these each. */
    private static void roundsInEachGraph() {
        for (int n = 0; n < 4; n++) {
            int graph = n;
            Edge.House house = () -> {
                Twotalk x = new Twotalk();
                Due.graph(x, graph, "(t.(a.b.0+a.c.0)+(t.a.b.0+t.a.c.0))");
                return x;
            };
            Edge.allowed("t1 t2 t3", "steps", house, x -> x.steps(graph, 0));
            for (int look = 2; look <= 4; look++) {
                int asked = look;
                Edge.allowed("0 1 2 3 4 5 6", "classes of the graph " + n + " by " + look, house,
                        x -> x.classes(graph, asked));
            }
            Edge.allowed(2, "round in the graph " + n, house, x -> x.round(graph, 1, graph, 2, false));
            Edge.allowed(2, "round in the graph " + n, house, x -> x.round(graph, 3, graph, 1, true));
        }
    }

    /** Rows that go round, of 23 and of 24 acts, have their first 45 acts alike, and no two such have more. */
    private static Edge.House longAlike() {
        return two("X0", "X1", "0=" + row("a", 22, "b.X0"), "1=" + row("a", 22, "b.X2"), "2=a.X1");
    }

    /** A late round, with a deep sentence and a long game. */
    private static void lateRound() {
        String alike = row("a", 22, "b") + row("a", 22, "");
        String word = alike.replace(".", "");
        String steps = word.replace("a", "<a>").replace("b", "<b>");
        Edge.House house = longAlike();
        Edge.allowed(46, "round", house, x -> x.round(0, 0, 1, 0, false));
        Edge.allowed(46, "round, unseen", house, x -> x.round(1, 0, 0, 0, true));
        Edge.allowed(steps + "<b>T", "sentence", house, x -> x.sentence(0, 0, 1, 0, false));
        Edge.allowed(steps + "<a>T", "sentence back", house, x -> x.sentence(1, 0, 0, 0, false));
        Edge.allowed(word + "a", "word", house, x -> x.word(0, 0, 1, 0));
        Edge.allowed(word + ":2", "refusal", house, x -> x.refusal(0, 0, 1, 0));
        StringBuilder game = new StringBuilder();
        for (int turn = 1; turn <= 45; turn++) {
            game.append("0").append(turn % 23 == 0 ? "b" : "a").append(turn % 23).append(">").append(turn % 24)
                    .append(" ");
        }
        Edge.allowed(game + "0b0>-", "game", house, x -> x.game(0, 0, 1, 0));
        Edge.allowed(false, "by words", house, x -> x.isAlike(0, 0, 0, 1, 0));
        Edge.allowed(true, "isSound", house, Twotalk::isSound);
    }

    /** "NoSuchElementException if both have the same WORDS"; "by the WORD without ACTS one comes to" */
    private static void wordOfNoneAndOfOne() {
        Edge.refused(Due.ELEMENT, "word of nil and nil", Twotalk::new, x -> x.word(0, 0, 3, 0));
        Edge.refused(Due.ELEMENT, "word of one with itself", two("a.0", "b.0"), x -> x.word(1, 0, 1, 0));
        Edge.refused(Due.ELEMENT, "word of what does t alone, and nil", two("t.t.0", "0"), x -> x.word(0, 0, 1, 0));
        Edge.refused(Due.ELEMENT, "the same words, other refusals", two("(a.0+t.b.0)", "(a.0+b.0)"),
                x -> x.word(0, 0, 1, 0));
        Edge.allowed("a", "the first act", two("(a.0+D.0)", "0"), x -> x.word(0, 0, 1, 0));
        Edge.allowed("D", "the last act", two("t.D.0", "0"), x -> x.word(0, 0, 1, 0));
        Edge.allowed(row("a", 23, "").replace(".", ""), "the last of 24 states", two(STEPS_24, STEPS_24.substring(2)),
                x -> x.word(0, 0, 1, 0));
    }

    /** "NoSuchElementException if both have the same REFUSALS"; the word without acts; the set without acts */
    private static void refusalOfEmptyWordAndSet() {
        Edge.refused(Due.ELEMENT, "refusal of nil and nil", Twotalk::new, x -> x.refusal(0, 0, 3, 0));
        Edge.refused(Due.ELEMENT, "refusal of one with itself", two("a.0", "b.0"), x -> x.refusal(1, 0, 1, 0));
        Edge.refused(Due.ELEMENT, "other steps, the same refusals",
                two("(a.b.c.0+a.b.d.0)", "a.(b.c.0+b.d.0)"), x -> x.refusal(0, 0, 1, 0));
        Edge.allowed(":2", "without acts", two("a.0", "0"), x -> x.refusal(0, 0, 1, 0));
        Edge.allowed("a:0", "all is refused by both, then but one has the word", two("(a.0+t.0)", "0"),
                x -> x.refusal(0, 0, 1, 0));
        Edge.allowed("a:0", "the same turned", two("(a.0+t.0)", "0"), x -> x.refusal(1, 0, 0, 0));
        Edge.allowed("ab:0", "one act later", two("a.(b.0+t.0)", "a.0"), x -> x.refusal(0, 0, 1, 0));
    }

    /** One comes by t to each of those that can do one seen act alone: all sets are refused but that of all. */
    private static void refusalOfTheLargestSet() {
        Edge.House house = two("(X0+X1)", "0", "0=((t.a.0+t.b.0)+(t.c.0+t.d.0))", "1=((t.A.0+t.B.0)+(t.C.0+t.D.0))");
        Edge.allowed(":510", "all seen acts", house, x -> x.refusal(0, 0, 1, 0));
        Edge.allowed(":510", "all seen acts, turned", house, x -> x.refusal(1, 0, 0, 0));
        Edge.allowed(510, "CAN of all", house, x -> x.ofState(0, 0, 1));
        Edge.allowed(":256", "the last act", two("D.0", "0"), x -> x.refusal(0, 0, 1, 0));
    }

    /** "Throws NoSuchElementException if both are alike" (sentence) */
    private static void sentenceIfAlike() {
        for (boolean isUnseen : new boolean[] {false, true}) {
            Edge.refused(Due.ELEMENT, "sentence of nil and nil", Twotalk::new, x -> x.sentence(0, 0, 3, 0, isUnseen));
            Edge.refused(Due.ELEMENT, "sentence with itself", two("a.0", "0"), x -> x.sentence(0, 0, 0, 0, isUnseen));
            Edge.refused(Due.ELEMENT, "sentence of like ones", two("(a.0|b.0)", "(a.b.0+b.a.0)"),
                    x -> x.sentence(0, 0, 1, 0, isUnseen));
        }
        Edge.refused(Due.ELEMENT, "alike by unseen", two("t.0", "0"), x -> x.sentence(0, 0, 1, 0, true));
        Edge.allowed("<t>T", "not by steps", two("t.0", "0"), x -> x.sentence(0, 0, 1, 0, false));
        Edge.allowed("!<t>T", "not by steps, turned", two("t.0", "0"), x -> x.sentence(1, 0, 0, 0, false));
    }

    /** Each floor comes to the two others of the floor below, so that sentences double with each. */
    private static Edge.House floors() {
        return two("(a.(a.X3+a.X5)+a.(a.X3+a.X4))", "(a.(a.X4+a.X5)+a.(a.X3+a.X4))",
                "0=(a.(a.b.0+a.d.0)+a.(a.b.0+a.c.0))", "1=(a.(a.0+a.0)+a.(a.b.0+a.c.0))",
                "2=(a.(a.c.0+a.d.0)+a.(a.b.0+a.d.0))", "3=(a.(a.X0+a.X2)+a.(a.X0+a.X1))",
                "4=(a.(a.X2+a.X2)+a.(a.X0+a.X1))", "5=(a.(a.X1+a.X2)+a.(a.X0+a.X2))");
    }

    /** "Throws IllegalStateException if its TEXT is longer than 400" */
    private static void sentenceUpTo400() {
        Edge.allowed(400, "400 signs", floors(), x -> x.sentence(0, 0, 1, 0, false).length());
        Edge.allowed(400, "400 signs, unseen", floors(), x -> x.sentence(0, 0, 1, 0, true).length());
        Edge.allowed("(<a><c>T&<a><b>T)))))", "the last of 400 signs", floors(),
                x -> x.sentence(0, 0, 1, 0, false).substring(379));
        Edge.refused(Due.STATE, "401 signs", floors(), x -> x.sentence(1, 0, 0, 0, false));
        Edge.refused(Due.STATE, "401 signs, unseen", floors(), x -> x.sentence(1, 0, 0, 0, true));
        sentenceUpTo400ByNot(false);
        sentenceUpTo400ByNot(true);
        Edge.refused(Due.ELEMENT, "one with itself", floors(), x -> x.sentence(1, 0, 1, 0, false));
        Edge.allowed(true, "the game has no such bound", floors(), x -> x.game(1, 0, 0, 0).endsWith("-"));
        Edge.allowed(true, "nor has what is sound", floors(), Twotalk::isSound);
    }

    /** The graph 0 can do all that the graph 1 can, and one thing more, so that what parts that one begins with "!". */
    private static void sentenceUpTo400ByNot(boolean isUnseen) {
        Edge.House of399 = two("(a.X6+a.X7)", "a.X7", "0=(a.(a.b.0+a.c.0)+a.(a.c.0+a.0))",
                "1=(a.(a.b.0+a.d.0)+a.(a.0+a.0))", "2=(a.(a.b.0+a.0)+a.(a.b.0+a.c.0))",
                "3=(a.(a.X0+a.X2)+a.(a.X1+a.X2))", "4=(a.(a.X0+a.X1)+a.(a.X0+a.X2))",
                "5=(a.(a.X1+a.X2)+a.(a.X0+a.X1))", "6=(a.(a.X4+a.X5)+a.(a.X4+a.X5))",
                "7=(a.(a.X3+a.X3)+a.(a.X4+a.X3))");
        Edge.House of400 = two("(a.X6+(a.X7+a.0))", "(a.X7+a.0)", "0=(a.(a.0+a.c.0)+a.(a.0+a.d.0))",
                "1=(a.(a.d.0+a.b.0)+a.(a.0+a.c.0))", "2=(a.(a.c.0+a.d.0)+a.(a.0+a.d.0))",
                "3=(a.(a.X2+a.X0)+a.(a.X1+a.X0))", "4=(a.(a.X1+a.X0)+a.(a.X1+a.X2))",
                "5=(a.(a.X0+a.X2)+a.(a.X1+a.X2))", "6=(a.(a.X3+a.X4)+a.(a.X3+a.X4))",
                "7=(a.(a.X5+a.X5)+a.(a.X4+a.X5))");
        Edge.allowed(399, "399 signs", of399, x -> x.sentence(0, 0, 1, 0, isUnseen).length());
        Edge.allowed(true, "400 signs, the first of them a not", of399,
                x -> x.sentence(1, 0, 0, 0, isUnseen).equals("!" + x.sentence(0, 0, 1, 0, isUnseen)));
        Edge.allowed(400, "400 signs, without a not", of400, x -> x.sentence(0, 0, 1, 0, isUnseen).length());
        Edge.refused(Due.STATE, "401 signs, the first of them a not", of400, x -> x.sentence(1, 0, 0, 0, isUnseen));
        Edge.allowed(true, "isSound, though a not is too much", of400, Twotalk::isSound);
    }

    /** "\"T\" without a q'"; of one alone without brackets; "each one but once" */
    private static void sentenceWithoutAnswers() {
        Edge.allowed("<a>T", "without an answer", two("a.0", "b.0"), x -> x.sentence(0, 0, 1, 0, false));
        Edge.allowed("<a><b>T", "one answer", two("a.b.0", "a.0"), x -> x.sentence(0, 0, 1, 0, false));
        Edge.allowed("<a><b>T", "two answers, the same for both", two("a.b.0", "(a.0+a.c.0)"),
                x -> x.sentence(0, 0, 1, 0, false));
        Edge.allowed("<a>(<c>T&<b>T)", "two answers", two("a.(b.0+c.0)", "(a.b.0+a.c.0)"),
                x -> x.sentence(0, 0, 1, 0, false));
        Edge.allowed("!<a>T", "no act of its own", two("0", "a.0"), x -> x.sentence(0, 0, 1, 0, false));
    }

    /** "Throws NoSuchElementException if both are alike by STEPS" */
    private static void gameIfAlike() {
        Edge.refused(Due.ELEMENT, "game of nil and nil", Twotalk::new, x -> x.game(0, 0, 3, 0));
        Edge.refused(Due.ELEMENT, "game with itself", two("a.0", "0"), x -> x.game(0, 0, 0, 0));
        Edge.refused(Due.ELEMENT, "game of like ones", two("(a.0|b.0)", "(a.b.0+b.a.0)"), x -> x.game(0, 0, 1, 0));
        Edge.allowed("0t1>-", "game of those alike by unseen", two("t.0", "0"), x -> x.game(0, 0, 1, 0));
    }

    /** "without one the game is over": "or \"-\"" */
    private static void gameWithoutAnswers() {
        Edge.allowed("0a1>-", "without an answer", two("a.0", "b.0"), x -> x.game(0, 0, 1, 0));
        Edge.allowed("1a1>-", "no act of its own", two("0", "a.0"), x -> x.game(0, 0, 1, 0));
        Edge.allowed("0a1>1 0b2>-", "one answer", two("a.b.0", "a.0"), x -> x.game(0, 0, 1, 0));
        Edge.allowed("0a1>1 1b2>-", "one answer, then none", two("a.0", "a.b.0"), x -> x.game(0, 0, 1, 0));
    }

    /** "Throws IndexOutOfBoundsException if n is not 0 to 3", then "if look is not 2 to 4" (classes) */
    private static void classesNumbers() {
        Edge.House house = BoundsOfLooksTest::four;
        for (int look = 2; look <= 4; look++) {
            int asked = look;
            Edge.range(Due.INDEX, 0, 3, "classes by " + look, house, (x, n) -> x.classes(n, asked));
        }
        Edge.range(Due.ARGUMENT, 2, 4, "classes, the look", house, (x, look) -> x.classes(3, look));
        Edge.refused(Due.ARGUMENT, "classes by refusals", house, x -> x.classes(0, 1));
        Edge.refused(Due.ARGUMENT, "classes by words", house, x -> x.classes(0, 0));
        Edge.refused(Due.ARGUMENT, "classes by -1", house, x -> x.classes(0, -1));
        Edge.outside(Due.INDEX, 0, 3, "classes by 1", house, (x, n) -> x.classes(n, 1));
        Edge.outside(Due.INDEX, 0, 3, "classes by 5", house, (x, n) -> x.classes(n, 5));
    }

    private static void classesOfOneAndOfAll() {
        String each = "0 1 2 3 4 5 6 7 8 9 10 11 12 13 14 15 16 17 18 19 20 21 22 23";
        for (int look = 2; look <= 4; look++) {
            int asked = look;
            Edge.allowed("0", "classes of nil", Twotalk::new, x -> x.classes(3, asked));
            Edge.allowed(each, "24 that are unlike", two("0", STEPS_24), x -> x.classes(1, asked));
            Edge.allowed("0" + " 0".repeat(23), "24 that are alike",
                    two("X0", "X0", "0=" + STEPS_24.replace("0", "X1"), "1=a.X1"), x -> x.classes(1, asked));
            Edge.allowed(look == 4 ? each : "0" + " 0".repeat(23), "24 by t alone",
                    two(STEPS_24.replace("a", "t"), "0"), x -> x.classes(0, asked));
        }
    }
}
