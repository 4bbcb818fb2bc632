/** Promises 23 to 29: the five looks, and what parts states. */
public final class LooksTest {
    private static final int[] NO_GRAPH = {-1, 4, Integer.MIN_VALUE, Integer.MAX_VALUE};

    public static void main(String[] args) {
        isAlike();
        isAlikeInOneGraph();
        boundOfWords();
        round();
        word();
        refusal();
        sentence();
        sentenceUnseen();
        sentenceLength();
        game();
        classes();
        wrongPlaces();
        Due.end();
    }

    /** A house whose graphs 0 and 1 are those of two terms. */
    private static Twotalk two(String one, String other, String... lines) {
        Twotalk x = Due.house(lines);
        Due.graph(x, 0, one);
        Due.graph(x, 1, other);
        return x;
    }

    /** The looks 0 to 4, each "1" if the states 0 are alike by it. */
    private static void looks(String due, String one, String other, String... lines) {
        Twotalk x = two(one, other, lines);
        for (int look = 0; look <= 4; look++) {
            int asked = look;
            boolean isDue = due.charAt(look) == '1';
            Due.is(isDue, "look " + look + " of " + one + " and " + other, () -> x.isAlike(asked, 0, 0, 1, 0));
            Due.is(isDue, "look " + look + " of " + other + " and " + one, () -> x.isAlike(asked, 1, 0, 0, 0));
            Due.is(true, "look " + look + " of " + one + " with itself", () -> x.isAlike(asked, 0, 0, 0, 0));
        }
    }

    private static void isAlike() {
        looks("11111", "0", "0");
        looks("11111", "(a.0+b.0)", "(b.0+(a.0+b.0))");
        looks("11111", "(a.0|b.0)", "(a.b.0+b.a.0)");
        looks("00000", "a.0", "b.0");
        looks("00000", "a.0", "A.0");
        looks("11110", "t.0", "0");
        looks("11110", "a.t.b.0", "a.b.0");
        looks("10000", "(a.b.0+a.c.0)", "a.(b.0+c.0)");
        looks("10000", "(a.0+t.0)", "a.0");
        looks("10000", "(a.0+t.b.0)", "(a.0+b.0)");
        looks("11000", "(a.b.c.0+a.b.d.0)", "a.(b.c.0+b.d.0)");
        looks("11100", "(a.0+(t.b.0+b.0))", "(a.0+t.b.0)");
        looks("11110", "a.(t.(b.0+c.0)+b.0)", "a.(b.0+c.0)");
        looks("11110", "X0", "0", "0=t.X0");
        looks("11110", "(X0|a.0)", "X1", "0=t.X0", "1=(t.X1+a.0)");
        looks("11111", "X0", "X1", "0=a.X0", "1=a.a.X1");
        looks("11110", "X0", "X1", "0=a.t.X0", "1=a.X1");
        looks("11110", "((a.0|A.b.0)-a)", "b.0");
        for (int look : new int[] {-1, 5, Integer.MIN_VALUE, Integer.MAX_VALUE}) {
            Twotalk x = two("a.0", "b.0");
            Due.fails(Due.ARGUMENT, x, "look " + look, () -> x.isAlike(look, 0, 0, 1, 0));
            Due.fails(Due.INDEX, x, "look " + look + ", no state", () -> x.isAlike(look, 0, 2, 1, 0));
        }
    }

    private static void isAlikeInOneGraph() {
        Twotalk x = new Twotalk();
        Due.graph(x, 2, "(a.b.0+t.(a.(0|b.0)+(0|0)))");
        Due.is("t1 a2", "its steps", () -> x.steps(2, 0));
        Due.is("(0|b.0) b.0", "its terms", () -> x.term(2, 3) + " " + x.term(2, 2));
        Due.is(true, "two of one graph", () -> x.isAlike(4, 2, 2, 2, 3));
        Due.is(false, "by steps", () -> x.isAlike(4, 2, 0, 2, 1));
        Due.is(true, "by branches", () -> x.isAlike(3, 2, 0, 2, 1));
        Due.is(true, "a still one and the one of another graph", () -> x.isAlike(4, 2, 4, 3, 0));
    }

    /** To tell which act was the n-th one ahead of the last one takes 2 to the n sets of states. */
    private static Twotalk longMemory(String... lines) {
        Twotalk x = Due.house("0=(a.X0+(b.X0+a.X1))", "1=(a.X2+b.X2)", "2=(a.X3+b.X3)", "3=(a.X4+b.X4)",
                "4=(a.X5+b.X5)", "5=(a.X6+b.X6)", "6=(a.X7+b.X7)", "7=a.0");
        Due.told(x, lines);
        Due.graph(x, 0, "X0");
        Due.graph(x, 1, "X0");
        return x;
    }

    private static void boundOfWords() {
        String two = "2=(a.(a.X3+b.X3)+b.(a.X3+b.X3))";
        for (String[] lines : new String[][] {{}, {two, "7=c.0"}, {two, "4=(a.X5+b.b.X5)"}}) {
            Twotalk x = longMemory(lines);
            Due.is(true, "up to 300 pairs", () -> x.isAlike(0, 0, 0, 1, 0));
            Due.is(true, "up to 300 pairs", () -> x.isAlike(1, 1, 0, 0, 0));
            Due.fails(Due.ELEMENT, x, "up to 300 pairs", () -> x.word(0, 0, 1, 0));
            Due.fails(Due.ELEMENT, x, "up to 300 pairs", () -> x.refusal(0, 0, 0, 0));
        }
        pastTheBound(longMemory(two, "3=(a.X4+b.b.X4)", "6=(a.a.X7+b.X7)", "7=b.0"));
        pastTheBound(longMemory(two));
    }

    private static void pastTheBound(Twotalk x) {
        Due.fails(Due.STATE, x, "301 pairs or more", () -> x.isAlike(0, 0, 0, 1, 0));
        Due.fails(Due.STATE, x, "301 pairs or more", () -> x.isAlike(1, 0, 0, 1, 0));
        Due.fails(Due.STATE, x, "301 pairs or more", () -> x.isAlike(0, 0, 0, 0, 0));
        Due.fails(Due.STATE, x, "301 pairs or more", () -> x.word(0, 0, 1, 0));
        Due.fails(Due.STATE, x, "301 pairs or more", () -> x.refusal(0, 0, 1, 0));
        Due.fails(Due.ARGUMENT, x, "the look counts first", () -> x.isAlike(5, 0, 0, 1, 0));
        for (int look = 2; look <= 4; look++) {
            int asked = look;
            Due.is(true, "the other looks have no bound", () -> x.isAlike(asked, 0, 0, 1, 0));
        }
        Due.is(true, "a look without an answer is passed over", x::isSound);
        Due.is(false, "what is found ahead of the bound", () -> x.isAlike(0, 0, 0, 2, 0));
        Due.is("a", "what is found ahead of the bound", () -> x.word(0, 0, 2, 0));
        Due.is(":2", "what is found ahead of the bound", () -> x.refusal(2, 0, 1, 0));
    }

    private static void rounds(int steps, int unseen, String one, String other, String... lines) {
        Twotalk x = two(one, other, lines);
        Due.is(steps, "round of " + one + " and " + other, () -> x.round(0, 0, 1, 0, false));
        Due.is(steps, "round of " + other + " and " + one, () -> x.round(1, 0, 0, 0, false));
        Due.is(unseen, "unseen round of " + one + " and " + other, () -> x.round(0, 0, 1, 0, true));
        Due.is(unseen, "unseen round of " + other + " and " + one, () -> x.round(1, 0, 0, 0, true));
        Due.is(-1, "round with itself", () -> x.round(0, 0, 0, 0, false));
    }

    private static void round() {
        rounds(-1, -1, "0", "0");
        rounds(1, 1, "a.0", "b.0");
        rounds(1, -1, "t.0", "0");
        rounds(2, 2, "(a.b.0+a.c.0)", "a.(b.0+c.0)");
        rounds(3, 3, "(a.b.c.0+a.b.d.0)", "a.(b.c.0+b.d.0)");
        rounds(1, 2, "(a.0+t.0)", "a.0");
        rounds(5, 5, "a.a.a.a.a.0", "a.a.a.a.0");
        rounds(2, -1, "(X0|a.0)", "X1", "0=t.X0", "1=(t.X1+a.0)");
        rounds(24, 24, "X0", "a.a.a.a.a.a.a.a.a.a.a.a.a.a.a.a.a.a.a.a.a.a.a.0", "0=a.X0");
    }

    private static void words(Object word, Object refusal, String one, String other, String... lines) {
        Twotalk x = two(one, other, lines);
        parted(x, word, "word of " + one + " and " + other, () -> x.word(0, 0, 1, 0));
        parted(x, word, "word of " + other + " and " + one, () -> x.word(1, 0, 0, 0));
        parted(x, refusal, "refusal of " + one + " and " + other, () -> x.refusal(0, 0, 1, 0));
        parted(x, refusal, "refusal of " + other + " and " + one, () -> x.refusal(1, 0, 0, 0));
    }

    private static void parted(Twotalk x, Object due, String what, Due.Call call) {
        if (due instanceof String) {
            Due.is(due, what, call);
        } else {
            Due.fails(Due.ELEMENT, x, what, call);
        }
    }

    private static void word() {
        words(null, null, "0", "0");
        words(null, null, "t.0", "0");
        words("a", ":2", "a.0", "0");
        words("a", ":2", "a.0", "b.0");
        words("b", ":4", "(a.0+(b.0+c.0))", "a.0");
        words("ab", "a:4", "(a.b.0+b.0)", "(a.0+b.0)");
        words("bA", ":4", "(b.A.0+a.0)", "(b.0+t.a.0)");
        words("cD", "c:256", "(c.D.0+b.0)", "(c.0+b.0)");
        words("aa", "a:2", "(a.0+c.c.0)", "(a.a.0+c.0)");
        words("aaaaa", "aaaa:2", "X0", "a.a.a.a.0", "0=a.X0");
        words("bb", "b:4", "X0", "t.(b.t.0+a.X0)", "0=(a.X0+b.b.0)");
    }

    private static void refusal() {
        words(null, "a:4", "(a.b.0+a.c.0)", "a.(b.0+c.0)");
        words(null, ":2", "(a.0+t.b.0)", "(a.0+b.0)");
        words(null, ":2", "(a.0+t.0)", "a.0");
        words(null, "b:10", "b.(a.0+((t.c.0+t.(c.0+D.0))+(t.D.0+t.a.D.0)))", "b.(a.0+(t.(c.0+D.0)+(t.a.D.0+c.0)))");
        words(null, "ab:256", "a.(b.D.0+b.0)", "a.b.D.0");
        words(null, null, "(a.b.c.0+a.b.d.0)", "a.(b.c.0+b.d.0)");
        words(null, null, "X0", "t.X0", "0=(t.X0+a.0)");
    }

    private static void sentences(String there, String back, String one, String other, String... lines) {
        Twotalk x = two(one, other, lines);
        Due.is(there, "sentence of " + one + " and " + other, () -> x.sentence(0, 0, 1, 0, false));
        Due.is(back, "sentence of " + other + " and " + one, () -> x.sentence(1, 0, 0, 0, false));
        Due.say(x, there);
        Due.is(true, there + " is true of the first one", () -> x.isTrue(0, 0));
        Due.is(false, there + " is not of the second one", () -> x.isTrue(1, 0));
        Due.is(x.round(0, 0, 1, 0, false), "depth of " + there, x::depth);
        Due.fails(Due.ELEMENT, x, "sentence with itself", () -> x.sentence(0, 0, 0, 0, false));
    }

    private static void sentence() {
        sentences("<a>T", "!<a>T", "a.0", "0");
        sentences("<a>T", "<b>T", "a.0", "b.0");
        sentences("<t>T", "!<t>T", "(t.0+a.0)", "a.0");
        sentences("<a>(<c>T&<b>T)", "<a>!<c>T", "a.(b.0+c.0)", "(a.b.0+a.c.0)");
        sentences("<a><b>T", "!<a><b>T", "(a.b.0+a.0)", "a.0");
        sentences("<a><a>T", "<a>!<a>T", "a.a.0", "a.0");
        sentences("<a>(!<c>T&<b>T)", "<a>(<c>T&<b>T)", "((a.c.0+a.(0|b.0))+a.b.0)", "(a.c.0+a.(b.0+c.0))");
        sentences("<a>(<d>T&(<c>T&<b>T))", "<a>!<d>T", "a.(b.0+(c.0+d.0))",
                "((a.(b.0+c.0)+a.(b.0+d.0))+a.(c.0+d.0))");
        sentences("<a>(<a>T&<a><a>T)", "<a>(<a>T&<a>!<a>T)", "(a.a.a.0+a.A.0)", "(a.A.0+a.a.0)");
        sentences("!<a><A>T", "<a><A>T", "a.a.a.0", "(a.A.0+a.a.0)");
        sentences("<a><b>T", "<a><c>T", "(a.A.0+a.b.0)", "(a.A.0+a.c.0)");
        sentences("<b>T", "!<b>T", "(a.a.a.0+b.0)", "a.a.0");
        sentences("<a><a><a><a>T", "<a><a><a>!<a>T", "X0", "a.a.a.0", "0=a.X0");
    }

    private static void sentenceUnseen() {
        Twotalk x = two("(a.0+t.0)", "a.0");
        Due.is("{t}!{a}T", "unseen", () -> x.sentence(0, 0, 1, 0, true));
        Due.is("!{t}!{a}T", "unseen, back", () -> x.sentence(1, 0, 0, 0, true));
        Due.is("<t>T", "by steps", () -> x.sentence(0, 0, 1, 0, false));
        Twotalk y = two("a.(b.0+c.0)", "(a.b.0+a.c.0)");
        Twotalk v = two("(a.a.a.0+t.b.0)", "a.a.0");
        Due.is("{b}T", "no act behind which they are parted as late", () -> v.sentence(0, 0, 1, 0, true));
        Twotalk w = two("t.a.t.(b.0+c.0)", "(a.(b.0+t.c.0)+t.a.b.0)");
        Due.is("!{a}!{c}T", "behind t", () -> w.sentence(0, 0, 1, 0, true));
        Due.is("{a}!{c}T", "behind t, back", () -> w.sentence(1, 0, 0, 0, true));
        Due.is("{a}({c}T&{b}T)", "unseen", () -> y.sentence(0, 0, 1, 0, true));
        Due.is("{a}!{c}T", "unseen, back", () -> y.sentence(1, 0, 0, 0, true));
        Twotalk z = two("t.a.0", "a.0");
        Due.fails(Due.ELEMENT, z, "alike by unseen", () -> z.sentence(0, 0, 1, 0, true));
        Due.is("<t>T", "not by steps", () -> z.sentence(0, 0, 1, 0, false));
    }

    /** Three on each floor, each of which comes to the two others of the floor below: sentences double each time. */
    private static Twotalk floors() {
        return Due.house("0=(a.(a.b.0+a.d.0)+a.(a.b.0+a.c.0))", "1=(a.(a.c.0+a.d.0)+a.(a.b.0+a.c.0))",
                "2=(a.(a.c.0+a.d.0)+a.(a.b.0+a.d.0))", "3=(a.(a.X0+a.X2)+a.(a.X0+a.X1))",
                "4=(a.(a.X1+a.X2)+a.(a.X0+a.X1))", "5=(a.(a.X1+a.X2)+a.(a.X0+a.X2))");
    }

    private static void sentenceLength() {
        Twotalk x = floors();
        Due.graph(x, 0, "X3");
        Due.graph(x, 1, "X4");
        Due.is("<a>(<a>(<a>(<a><d>T&<a><c>T)&<a>(<a><d>T&<a><b>T))&<a>(<a>(<a><d>T&<a><b>T)&<a>(<a><c>T&<a><b>T)))",
                "a long one", () -> x.sentence(0, 0, 1, 0, false));
        Due.graph(x, 0, "(a.X3+a.X5)");
        Due.graph(x, 1, "(a.X4+a.X5)");
        Due.is(202, "a longer one", () -> x.sentence(0, 0, 1, 0, false).length());
        Due.is(202, "a longer one, unseen", () -> x.sentence(0, 0, 1, 0, true).length());
        Due.graph(x, 0, "(a.(a.X3+a.X5)+a.(a.X3+a.X4))");
        Due.graph(x, 1, "(a.(a.X4+a.X5)+a.(a.X3+a.X4))");
        Due.fails(Due.STATE, x, "410 signs", () -> x.sentence(0, 0, 1, 0, false));
        Due.fails(Due.STATE, x, "410 signs, unseen", () -> x.sentence(0, 0, 1, 0, true));
        Due.fails(Due.ELEMENT, x, "alike counts first", () -> x.sentence(0, 0, 0, 0, false));
        Due.is(true, "the game has no such bound", () -> x.game(0, 0, 1, 0).length() > 20);
        Due.is(true, "nor what is sound", x::isSound);
        Due.told(x, "1=(a.(a.0+a.0)+a.(a.b.0+a.c.0))", "4=(a.(a.X2+a.X2)+a.(a.X0+a.X1))");
        Due.graph(x, 0, "(a.(a.X3+a.X5)+a.(a.X3+a.X4))");
        Due.graph(x, 1, "(a.(a.X4+a.X5)+a.(a.X3+a.X4))");
        Due.is(400, "400 signs", () -> x.sentence(0, 0, 1, 0, false).length());
        Due.fails(Due.STATE, x, "401 signs", () -> x.sentence(1, 0, 0, 0, false));
    }

    private static void games(String there, String back, String one, String other, String... lines) {
        Twotalk x = two(one, other, lines);
        Due.is(there, "game of " + one + " and " + other, () -> x.game(0, 0, 1, 0));
        Due.is(back, "game of " + other + " and " + one, () -> x.game(1, 0, 0, 0));
        Due.fails(Due.ELEMENT, x, "game with itself", () -> x.game(0, 0, 0, 0));
    }

    private static void game() {
        games("0a1>-", "1a1>-", "a.0", "0");
        games("0a1>-", "0b1>-", "a.0", "b.0");
        games("0a1>1 0c2>-", "0a1>1 1c2>-", "a.(b.0+c.0)", "(a.b.0+a.c.0)");
        games("0a1>1 0a2>-", "0a1>1 1a2>-", "a.a.0", "a.0");
        games("0a1>1 0a2>2 0b3>-", "0a1>1 0a2>2 1b3>-", "a.a.b.0", "a.(a.0+a.c.0)");
        games("0a2>2 0a4>3 0a3>-", "0a2>2 0a3>4 1a3>-", "(a.a.a.0+a.A.0)", "(a.A.0+a.a.0)");
        games("1a1>1 0a2>-", "0a1>1 0A3>-", "a.a.a.0", "(a.A.0+a.a.0)");
        games("0a2>1 0b3>-", "0a2>1 0c3>-", "(a.A.0+a.b.0)", "(a.A.0+a.c.0)");
        games("0b2>-", "1b2>-", "(a.a.a.0+b.0)", "a.a.0");
        games("0a0>1 0a0>2 0a0>-", "0a1>0 0a2>0 1a0>-", "X0", "a.a.0", "0=a.X0");
        games("0a3>4 0b4>3 0c2>-", "0a4>3 0b3>4 1c2>-", "(t.D.0+(a.0+a.b.c.0))",
                "((t.D.0+t.(D.0|0))+(a.0+a.b.0))");
        games("1a3>2 0b1>4 1c1>-", "0a3>2 0b4>1 0c1>-", "(a.0+a.b.0)", "(a.0+(a.b.0+a.b.c.0))");
        Twotalk x = two("a.t.0", "a.0");
        Due.is("0a1>1 0t2>-", "game of those alike by unseen", () -> x.game(0, 0, 1, 0));
        Due.fails(Due.ELEMENT, x, "game of those alike by steps", () -> x.game(0, 2, 1, 1));
    }

    private static void classes() {
        Twotalk x = new Twotalk();
        x.example(1);
        Due.is("0 1 2 3 3", "by steps", () -> x.classes(0, 4));
        Due.is("0 1 2 0 0", "by branches", () -> x.classes(0, 3));
        Due.is("0 1 2 0 0", "by unseen", () -> x.classes(0, 2));
        x.example(0);
        Due.is("0 1 2 3", "by steps", () -> x.classes(0, 4));
        Due.is("0 1 1 3", "by branches", () -> x.classes(0, 3));
        Due.graph(x, 2, "(t.(a.0+(t.b.0+b.0))+t.(a.0+t.b.0))");
        Due.is("t1 t2", "its steps", () -> x.steps(2, 0));
        Due.is("0 0 0 3 4", "by unseen", () -> x.classes(2, 2));
        Due.is("0 1 2 3 4", "by branches", () -> x.classes(2, 3));
        Due.is("0", "one state", () -> x.classes(3, 2));
        for (int n : NO_GRAPH) {
            Due.fails(Due.INDEX, x, "classes of " + n, () -> x.classes(n, 2));
            Due.fails(Due.INDEX, x, "classes of " + n + " by 5", () -> x.classes(n, 5));
        }
        for (int look : new int[] {-1, 0, 1, 5, Integer.MIN_VALUE, Integer.MAX_VALUE}) {
            Due.fails(Due.ARGUMENT, x, "classes by " + look, () -> x.classes(0, look));
        }
    }

    private interface Asked {
        Object of(Twotalk x, int n, int p, int m, int q);
    }

    private static void wrongPlaces() {
        Asked[] all = {
            (x, n, p, m, q) -> x.isAlike(0, n, p, m, q), (x, n, p, m, q) -> x.isAlike(4, n, p, m, q),
            (x, n, p, m, q) -> x.round(n, p, m, q, true), Twotalk::word, Twotalk::refusal, Twotalk::game,
            (x, n, p, m, q) -> x.sentence(n, p, m, q, false), (x, n, p, m, q) -> x.sentence(n, p, m, q, true)};
        for (int i = 0; i < all.length; i++) {
            Asked asked = all[i];
            Twotalk x = two("a.b.0", "a.c.0");
            for (int n : NO_GRAPH) {
                Due.fails(Due.INDEX, x, i + " with the graph " + n, () -> asked.of(x, n, 0, 0, 0));
                Due.fails(Due.INDEX, x, i + " with the other graph " + n, () -> asked.of(x, 0, 0, n, 0));
            }
            for (int p : new int[] {-1, 3, 24, Integer.MIN_VALUE, Integer.MAX_VALUE}) {
                Due.fails(Due.INDEX, x, i + " with the state " + p, () -> asked.of(x, 0, p, 1, 0));
                Due.fails(Due.INDEX, x, i + " with the other state " + p, () -> asked.of(x, 0, 0, 1, p));
            }
            Due.fails(Due.INDEX, x, i + " with a state of a small graph", () -> asked.of(x, 3, 1, 0, 0));
        }
    }
}
