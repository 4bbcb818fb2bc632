/** Promises 23 to 29: the five looks, and what parts states. */
public final class LooksTest {
    private static final int[] NO_GRAPH = {-1, 4, Integer.MIN_VALUE, Integer.MAX_VALUE};

    public static void main(String[] args) {
        isAlike();
        isAlikeInOneGraph();
        isAlikeByEachAct();
        isAlikeByBranches();
        isAlikeWherever();
        eachTwoOfRows();
        boundOfWords();
        round();
        word();
        refusal();
        sentence();
        sentenceUnseen();
        sentenceLength();
        sentenceOfLikeAnswers();
        sentenceOfManyAnswers();
        game();
        gameOfLaterRounds();
        classes();
        wrongPlaces();
        Due.end();
    }

    /** A house whose graphs 0 and 1 are those of two terms. */
    private static Twotalk two(String one, String other, String... lines) {
        Twotalk x = Due.house(lines);
        Due.graph(x, 0, one);
        Due.graph(x, 1, other);
        return x;
    }

    /** The looks 0 to 4, each "1" if the states 0 are alike by it. */
    private static void looks(String due, String one, String other, String... lines) {
        Twotalk x = two(one, other, lines);
        for (int look = 0; look <= 4; look++) {
            int asked = look;
            boolean isDue = due.charAt(look) == '1';
            Due.is(isDue, "look " + look + " of " + one + " and " + other, () -> x.isAlike(asked, 0, 0, 1, 0));
            Due.is(isDue, "look " + look + " of " + other + " and " + one, () -> x.isAlike(asked, 1, 0, 0, 0));
            Due.is(true, "look " + look + " of " + one + " with itself", () -> x.isAlike(asked, 0, 0, 0, 0));
        }
    }

    private static void isAlike() {
        looks("11111", "0", "0");
        looks("11111", "(a.0+b.0)", "(b.0+(a.0+b.0))");
        looks("11111", "(a.0|b.0)", "(a.b.0+b.a.0)");
        looks("00000", "a.0", "b.0");
        looks("00000", "a.0", "A.0");
        looks("11110", "t.0", "0");
        looks("11110", "a.t.b.0", "a.b.0");
        looks("10000", "(a.b.0+a.c.0)", "a.(b.0+c.0)");
        looks("10000", "(a.0+t.0)", "a.0");
        looks("10000", "(a.0+t.b.0)", "(a.0+b.0)");
        looks("11000", "(a.b.c.0+a.b.d.0)", "a.(b.c.0+b.d.0)");
        looks("11100", "(a.0+(t.b.0+b.0))", "(a.0+t.b.0)");
        looks("11110", "a.(t.(b.0+c.0)+b.0)", "a.(b.0+c.0)");
        looks("11110", "X0", "0", "0=t.X0");
        looks("11110", "(X0|a.0)", "X1", "0=t.X0", "1=(t.X1+a.0)");
        looks("11111", "X0", "X1", "0=a.X0", "1=a.a.X1");
        looks("11110", "X0", "X1", "0=a.t.X0", "1=a.X1");
        looks("11110", "((a.0|A.b.0)-a)", "b.0");
        for (int look : new int[] {-1, 5, Integer.MIN_VALUE, Integer.MAX_VALUE}) {
            Twotalk x = two("a.0", "b.0");
            Due.fails(Due.ARGUMENT, x, "look " + look, () -> x.isAlike(look, 0, 0, 1, 0));
            Due.fails(Due.INDEX, x, "look " + look + ", no state", () -> x.isAlike(look, 0, 2, 1, 0));
        }
    }

    private static void isAlikeInOneGraph() {
        Twotalk x = new Twotalk();
        Due.graph(x, 2, "(a.b.0+t.(a.(0|b.0)+(0|0)))");
        Due.is("t1 a2", "its steps", () -> x.steps(2, 0));
        Due.is("(0|b.0) b.0", "its terms", () -> x.term(2, 3) + " " + x.term(2, 2));
        Due.is(true, "two of one graph", () -> x.isAlike(4, 2, 2, 2, 3));
        Due.is(false, "by steps", () -> x.isAlike(4, 2, 0, 2, 1));
        Due.is(true, "by branches", () -> x.isAlike(3, 2, 0, 2, 1));
        Due.is(true, "a still one and the one of another graph", () -> x.isAlike(4, 2, 4, 3, 0));
    }

    private static void isAlikeByEachAct() {
        for (char act : "tabcdABCD".toCharArray()) {
            looks(act == 't' ? "11110" : "00000", act + ".0", "0");
            looks(act == 't' ? "11110" : "00000", "a." + act + ".0", "a.0");
            looks("11110", "t." + act + ".0", act == 't' ? "0" : act + ".0");
            looks(act == 't' ? "11110" : "10000", "(" + act + ".0+t.0)", act == 't' ? "0" : act + ".0");
            looks("11111", "(" + act + ".0+" + act + ".(0|0))", act + ".0");
        }
    }

    /** "from a STATE to which one comes by t .. through STATES (it, too) that are all alike with the first one" */
    private static void isAlikeByBranches() {
        looks("11100", "(a.(b.0+t.c.0)+a.c.0)", "a.(b.0+t.c.0)");
        looks("11110", "t.(a.0+t.b.0)", "(a.0+t.b.0)");
        looks("11110", "(t.(a.0+t.b.0)+(a.0+t.b.0))", "(a.0+t.b.0)");
        looks("11100", "(t.(a.0+t.b.0)+c.0)", "(t.(a.0+t.b.0)+(t.b.0+c.0))");
        looks("11110", "t.(a.0+t.b.0)", "(t.(a.0+t.b.0)+t.b.0)");
        looks("10000", "(a.0+t.(b.0+t.a.0))", "(a.0+t.b.0)");
        Twotalk x = Due.house("0=(a.X1+d.0)", "1=(t.X0+b.0)", "2=(d.0+(a.X1+b.0))");
        Due.graph(x, 0, "X0");
        Due.graph(x, 1, "X2");
        Due.graph(x, 2, "X1");
        Due.is("a1 d2, t0 b2", "a t to the state 0", () -> x.steps(0, 0) + ", " + x.steps(0, 1));
        for (int look = 0; look <= 4; look++) {
            int asked = look;
            Due.is(look == 0, "with and without that t, by " + look, () -> x.isAlike(asked, 0, 1, 1, 0));
            Due.is(look == 0, "without and with that t, by " + look, () -> x.isAlike(asked, 1, 0, 2, 0));
            Due.is(true, "with that t from the state 1 or the state 0, by " + look, () -> x.isAlike(asked, 0, 1, 2, 0));
        }
        Due.is("0 1 2", "one by t is not the other one", () -> x.classes(0, 3));
        Due.is("0 1 2", "one by t is not the other one", () -> x.classes(2, 3));
    }

    /** Two that differ by one step to one state alone, in all places that this one may have. */
    private static void isAlikeWherever() {
        for (int place = 0; place < 4 * 19; place++) {
            int n = place / 19;
            int ahead = place % 19;
            Twotalk x = Due.house("7=(d.(a.b.0+a.c.0)+d.a.b.0)");
            Due.is(ahead + 6, "states", () -> Due.graph(x, n, "d.".repeat(ahead) + "X7"));
            StringBuilder each = new StringBuilder("0");
            for (int p = 1; p < ahead + 6; p++) {
                each.append(' ').append(p);
            }
            for (int look = 2; look <= 4; look++) {
                int asked = look;
                Due.is(each.toString(), "classes of " + n + " by " + look, () -> x.classes(n, asked));
            }
            Due.is(2, "round of two of " + n, () -> x.round(n, ahead + 1, n, ahead + 2, false));
            Due.is(2, "round of two of " + n + ", unseen", () -> x.round(n, ahead + 2, n, ahead + 1, true));
            Due.is("<a><c>T", "what parts them", () -> x.sentence(n, ahead + 1, n, ahead + 2, false));
        }
    }

    /** Each state of a row of 24 with each, of one graph and of two. */
    private static void eachTwoOfRows() {
        for (int p = 0; p < 24; p++) {
            Twotalk x = new Twotalk();
            int n = p % 4;
            int m = p / 4 % 4;
            Due.graph(x, n, "a.".repeat(23) + "0");
            Due.graph(x, m, "a.".repeat(23) + "0");
            for (int q = 0; q < 24; q++) {
                if (p == q) {
                    alikeTwo(x, n, p, m, q);
                } else {
                    unlikeTwo(x, n, p, m, q);
                }
            }
        }
    }

    private static void alikeTwo(Twotalk x, int n, int p, int m, int q) {
        for (int look = 0; look <= 4; look++) {
            int asked = look;
            Due.is(true, "look " + look + " of " + p + " and " + q, () -> x.isAlike(asked, n, p, m, q));
        }
        Due.is(-1, "round of " + p + " and " + q, () -> x.round(n, p, m, q, false));
        Due.is(-1, "round of " + p + " and " + q + ", unseen", () -> x.round(n, p, m, q, true));
    }

    private static void unlikeTwo(Twotalk x, int n, int p, int m, int q) {
        String both = p + " and " + q;
        for (int look = 0; look <= 4; look++) {
            int asked = look;
            Due.is(false, "look " + look + " of " + both, () -> x.isAlike(asked, n, p, m, q));
        }
        int common = 23 - Math.max(p, q);
        Due.is(common + 1, "round of " + both, () -> x.round(n, p, m, q, false));
        Due.is(common + 1, "round of " + both + ", unseen", () -> x.round(n, p, m, q, true));
        Due.is("a".repeat(common + 1), "word of " + both, () -> x.word(n, p, m, q));
        Due.is("a".repeat(common) + ":2", "refusal of " + both, () -> x.refusal(n, p, m, q));
        String steps = "<a>".repeat(common) + (p < q ? "<a>T" : "!<a>T");
        Due.is(steps, "sentence of " + both, () -> x.sentence(n, p, m, q, false));
        Due.is(steps.replace('<', '{').replace('>', '}'), "sentence of " + both + ", unseen",
                () -> x.sentence(n, p, m, q, true));
        StringBuilder game = new StringBuilder();
        for (int turn = 1; turn <= common; turn++) {
            game.append("0a").append(p + turn).append('>').append(q + turn).append(' ');
        }
        game.append(p < q ? "0a" : "1a").append(Math.min(p, q) + common + 1).append(">-");
        Due.is(game.toString(), "game of " + both, () -> x.game(n, p, m, q));
    }

    /** To tell which act was the n-th one ahead of the last one takes 2 to the n sets of states. */
    private static Twotalk longMemory(String... lines) {
        Twotalk x = Due.house("0=(a.X0+(b.X0+a.X1))", "1=(a.X2+b.X2)", "2=(a.X3+b.X3)", "3=(a.X4+b.X4)",
                "4=(a.X5+b.X5)", "5=(a.X6+b.X6)", "6=(a.X7+b.X7)", "7=a.0");
        Due.told(x, lines);
        Due.graph(x, 0, "X0");
        Due.graph(x, 1, "X0");
        return x;
    }

    private static void boundOfWords() {
        String two = "2=(a.(a.X3+b.X3)+b.(a.X3+b.X3))";
        for (String[] lines : new String[][] {{}, {two, "7=c.0"}, {two, "4=(a.X5+b.b.X5)"}}) {
            Twotalk x = longMemory(lines);
            Due.is(true, "up to 300 pairs", () -> x.isAlike(0, 0, 0, 1, 0));
            Due.is(true, "up to 300 pairs", () -> x.isAlike(1, 1, 0, 0, 0));
            Due.fails(Due.ELEMENT, x, "up to 300 pairs", () -> x.word(0, 0, 1, 0));
            Due.fails(Due.ELEMENT, x, "up to 300 pairs", () -> x.refusal(0, 0, 0, 0));
        }
        pastTheBound(longMemory(two, "3=(a.X4+b.b.X4)", "6=(a.a.X7+b.X7)", "7=b.0"));
        pastTheBound(longMemory(two));
    }

    private static void pastTheBound(Twotalk x) {
        Due.fails(Due.STATE, x, "301 pairs or more", () -> x.isAlike(0, 0, 0, 1, 0));
        Due.fails(Due.STATE, x, "301 pairs or more", () -> x.isAlike(1, 0, 0, 1, 0));
        Due.fails(Due.STATE, x, "301 pairs or more", () -> x.isAlike(0, 0, 0, 0, 0));
        Due.fails(Due.STATE, x, "301 pairs or more", () -> x.word(0, 0, 1, 0));
        Due.fails(Due.STATE, x, "301 pairs or more", () -> x.refusal(0, 0, 1, 0));
        Due.fails(Due.ARGUMENT, x, "the look counts first", () -> x.isAlike(5, 0, 0, 1, 0));
        for (int look = 2; look <= 4; look++) {
            int asked = look;
            Due.is(true, "the other looks have no bound", () -> x.isAlike(asked, 0, 0, 1, 0));
        }
        Due.is(true, "a look without an answer is passed over", x::isSound);
        Due.is(false, "what is found ahead of the bound", () -> x.isAlike(0, 0, 0, 2, 0));
        Due.is("a", "what is found ahead of the bound", () -> x.word(0, 0, 2, 0));
        Due.is(":2", "what is found ahead of the bound", () -> x.refusal(2, 0, 1, 0));
    }

    private static void rounds(int steps, int unseen, String one, String other, String... lines) {
        Twotalk x = two(one, other, lines);
        Due.is(steps, "round of " + one + " and " + other, () -> x.round(0, 0, 1, 0, false));
        Due.is(steps, "round of " + other + " and " + one, () -> x.round(1, 0, 0, 0, false));
        Due.is(unseen, "unseen round of " + one + " and " + other, () -> x.round(0, 0, 1, 0, true));
        Due.is(unseen, "unseen round of " + other + " and " + one, () -> x.round(1, 0, 0, 0, true));
        Due.is(-1, "round with itself", () -> x.round(0, 0, 0, 0, false));
    }

    private static void round() {
        rounds(-1, -1, "0", "0");
        rounds(1, 1, "a.0", "b.0");
        rounds(1, -1, "t.0", "0");
        rounds(2, 2, "(a.b.0+a.c.0)", "a.(b.0+c.0)");
        rounds(3, 3, "(a.b.c.0+a.b.d.0)", "a.(b.c.0+b.d.0)");
        rounds(1, 2, "(a.0+t.0)", "a.0");
        rounds(5, 5, "a.a.a.a.a.0", "a.a.a.a.0");
        rounds(2, -1, "(X0|a.0)", "X1", "0=t.X0", "1=(t.X1+a.0)");
        rounds(1, -1, "(a.0+(t.b.0+b.0))", "(a.0+t.b.0)");
        rounds(2, -1, "(a.(b.0+t.c.0)+a.c.0)", "a.(b.0+t.c.0)");
        rounds(2, 3, "((a.(b.0+t.c.0)+a.c.0)+a.a.a.0)", "(a.(b.0+t.c.0)+a.a.0)");
        rounds(24, 24, "X0", "a.a.a.a.a.a.a.a.a.a.a.a.a.a.a.a.a.a.a.a.a.a.a.0", "0=a.X0");
    }

    private static void words(Object word, Object refusal, String one, String other, String... lines) {
        Twotalk x = two(one, other, lines);
        parted(x, word, "word of " + one + " and " + other, () -> x.word(0, 0, 1, 0));
        parted(x, word, "word of " + other + " and " + one, () -> x.word(1, 0, 0, 0));
        parted(x, refusal, "refusal of " + one + " and " + other, () -> x.refusal(0, 0, 1, 0));
        parted(x, refusal, "refusal of " + other + " and " + one, () -> x.refusal(1, 0, 0, 0));
    }

    private static void parted(Twotalk x, Object due, String what, Due.Call call) {
        if (due instanceof String) {
            Due.is(due, what, call);
        } else {
            Due.fails(Due.ELEMENT, x, what, call);
        }
    }

    private static void word() {
        words(null, null, "0", "0");
        words(null, null, "t.0", "0");
        words("a", ":2", "a.0", "0");
        words("a", ":2", "a.0", "b.0");
        words("b", ":4", "(a.0+(b.0+c.0))", "a.0");
        words("ab", "a:4", "(a.b.0+b.0)", "(a.0+b.0)");
        words("bA", ":4", "(b.A.0+a.0)", "(b.0+t.a.0)");
        words("cD", "c:256", "(c.D.0+b.0)", "(c.0+b.0)");
        words("aa", "a:2", "(a.0+c.c.0)", "(a.a.0+c.0)");
        words("aaaaa", "aaaa:2", "X0", "a.a.a.a.0", "0=a.X0");
        words("bb", "b:4", "X0", "t.(b.t.0+a.X0)", "0=(a.X0+b.b.0)");
    }

    private static void refusal() {
        words(null, "a:4", "(a.b.0+a.c.0)", "a.(b.0+c.0)");
        words(null, ":2", "(a.0+t.b.0)", "(a.0+b.0)");
        words(null, ":2", "(a.0+t.0)", "a.0");
        words(null, "b:10", "b.(a.0+((t.c.0+t.(c.0+D.0))+(t.D.0+t.a.D.0)))", "b.(a.0+(t.(c.0+D.0)+(t.a.D.0+c.0)))");
        words(null, "ab:256", "a.(b.D.0+b.0)", "a.b.D.0");
        words(null, null, "(a.b.c.0+a.b.d.0)", "a.(b.c.0+b.d.0)");
        refusalOfTheSmallestNumber();
        words(null, null, "X0", "t.X0", "0=(t.X0+a.0)");
    }

    /** "the smallest set of SEEN ACTS (as a number)": of a and b (6), though that of c alone (8) has fewer acts */
    private static void refusalOfTheSmallestNumber() {
        words(null, ":6", "(t.(b.0+c.0)+t.(a.0+c.0))", "((t.(b.0+c.0)+t.(a.0+c.0))+t.0)");
        words(null, "d:12", "d.(t.(A.0+b.0)+t.(c.0+A.0))", "(d.(t.(A.0+b.0)+t.(c.0+A.0))+d.A.0)");
        words(null, ":14", "X0", "(X0+t.0)", "0=((t.(a.0+D.0)+t.(b.0+D.0))+t.(c.0+D.0))");
    }

    private static void sentences(String there, String back, String one, String other, String... lines) {
        Twotalk x = two(one, other, lines);
        Due.is(there, "sentence of " + one + " and " + other, () -> x.sentence(0, 0, 1, 0, false));
        Due.is(back, "sentence of " + other + " and " + one, () -> x.sentence(1, 0, 0, 0, false));
        Due.say(x, there);
        Due.is(true, there + " is true of the first one", () -> x.isTrue(0, 0));
        Due.is(false, there + " is not of the second one", () -> x.isTrue(1, 0));
        Due.is(x.round(0, 0, 1, 0, false), "depth of " + there, x::depth);
        Due.fails(Due.ELEMENT, x, "sentence with itself", () -> x.sentence(0, 0, 0, 0, false));
    }

    private static void sentence() {
        sentences("<a>T", "!<a>T", "a.0", "0");
        sentences("<a>T", "<b>T", "a.0", "b.0");
        sentences("<t>T", "!<t>T", "(t.0+a.0)", "a.0");
        sentences("<a>(<c>T&<b>T)", "<a>!<c>T", "a.(b.0+c.0)", "(a.b.0+a.c.0)");
        sentences("<a><b>T", "!<a><b>T", "(a.b.0+a.0)", "a.0");
        sentences("<a><a>T", "<a>!<a>T", "a.a.0", "a.0");
        sentences("<a>(!<c>T&<b>T)", "<a>(<c>T&<b>T)", "((a.c.0+a.(0|b.0))+a.b.0)", "(a.c.0+a.(b.0+c.0))");
        sentences("<a>(<d>T&(<c>T&<b>T))", "<a>!<d>T", "a.(b.0+(c.0+d.0))",
                "((a.(b.0+c.0)+a.(b.0+d.0))+a.(c.0+d.0))");
        sentences("<a>(<a>T&<a><a>T)", "<a>(<a>T&<a>!<a>T)", "(a.a.a.0+a.A.0)", "(a.A.0+a.a.0)");
        sentences("!<a><A>T", "<a><A>T", "a.a.a.0", "(a.A.0+a.a.0)");
        sentences("<a><b>T", "<a><c>T", "(a.A.0+a.b.0)", "(a.A.0+a.c.0)");
        sentences("<b>T", "!<b>T", "(a.a.a.0+b.0)", "a.a.0");
        sentences("<a><a><a><a>T", "<a><a><a>!<a>T", "X0", "a.a.a.0", "0=a.X0");
    }

    private static void sentenceUnseen() {
        Twotalk x = two("(a.0+t.0)", "a.0");
        Due.is("{t}!{a}T", "unseen", () -> x.sentence(0, 0, 1, 0, true));
        Due.is("!{t}!{a}T", "unseen, back", () -> x.sentence(1, 0, 0, 0, true));
        Due.is("<t>T", "by steps", () -> x.sentence(0, 0, 1, 0, false));
        Twotalk y = two("a.(b.0+c.0)", "(a.b.0+a.c.0)");
        Twotalk v = two("(a.a.a.0+t.b.0)", "a.a.0");
        Due.is("{b}T", "no act behind which they are parted as late", () -> v.sentence(0, 0, 1, 0, true));
        Twotalk w = two("t.a.t.(b.0+c.0)", "(a.(b.0+t.c.0)+t.a.b.0)");
        Due.is("!{a}!{c}T", "behind t", () -> w.sentence(0, 0, 1, 0, true));
        Due.is("{a}!{c}T", "behind t, back", () -> w.sentence(1, 0, 0, 0, true));
        Due.is("{a}({c}T&{b}T)", "unseen", () -> y.sentence(0, 0, 1, 0, true));
        Due.is("{a}!{c}T", "unseen, back", () -> y.sentence(1, 0, 0, 0, true));
        Twotalk u = two("((a.(b.0+t.c.0)+a.c.0)+a.a.a.0)", "(a.(b.0+t.c.0)+a.a.0)");
        Due.is("{a}({a}T&{a}{a}T)", "of those that branches part earlier", () -> u.sentence(0, 0, 1, 0, true));
        Due.is("{a}({a}T&{a}!{a}T)", "of those that branches part earlier", () -> u.sentence(1, 0, 0, 0, true));
        String[][] alike = {{"(a.0+(t.b.0+b.0))", "(a.0+t.b.0)"}, {"(a.(b.0+t.c.0)+a.c.0)", "a.(b.0+t.c.0)"}};
        for (String[] both : alike) {
            Twotalk k = two(both[0], both[1]);
            Due.fails(Due.ELEMENT, k, "alike by unseen, not by branches", () -> k.sentence(0, 0, 1, 0, true));
            Due.fails(Due.ELEMENT, k, "alike by unseen, not by branches", () -> k.sentence(1, 0, 0, 0, true));
        }
        Twotalk z = two("t.a.0", "a.0");
        Due.fails(Due.ELEMENT, z, "alike by unseen", () -> z.sentence(0, 0, 1, 0, true));
        Due.is("<t>T", "not by steps", () -> z.sentence(0, 0, 1, 0, false));
    }

    /** Three on each floor, each of which comes to the two others of the floor below: sentences double each time. */
    private static Twotalk floors() {
        return Due.house("0=(a.(a.b.0+a.d.0)+a.(a.b.0+a.c.0))", "1=(a.(a.c.0+a.d.0)+a.(a.b.0+a.c.0))",
                "2=(a.(a.c.0+a.d.0)+a.(a.b.0+a.d.0))", "3=(a.(a.X0+a.X2)+a.(a.X0+a.X1))",
                "4=(a.(a.X1+a.X2)+a.(a.X0+a.X1))", "5=(a.(a.X1+a.X2)+a.(a.X0+a.X2))");
    }

    private static void sentenceLength() {
        Twotalk x = floors();
        Due.graph(x, 0, "X3");
        Due.graph(x, 1, "X4");
        Due.is("<a>(<a>(<a>(<a><d>T&<a><c>T)&<a>(<a><d>T&<a><b>T))&<a>(<a>(<a><d>T&<a><b>T)&<a>(<a><c>T&<a><b>T)))",
                "a long one", () -> x.sentence(0, 0, 1, 0, false));
        Due.graph(x, 0, "(a.X3+a.X5)");
        Due.graph(x, 1, "(a.X4+a.X5)");
        Due.is(202, "a longer one", () -> x.sentence(0, 0, 1, 0, false).length());
        Due.is(202, "a longer one, unseen", () -> x.sentence(0, 0, 1, 0, true).length());
        Due.graph(x, 0, "(a.(a.X3+a.X5)+a.(a.X3+a.X4))");
        Due.graph(x, 1, "(a.(a.X4+a.X5)+a.(a.X3+a.X4))");
        Due.fails(Due.STATE, x, "410 signs", () -> x.sentence(0, 0, 1, 0, false));
        Due.fails(Due.STATE, x, "410 signs, unseen", () -> x.sentence(0, 0, 1, 0, true));
        Due.fails(Due.ELEMENT, x, "alike counts first", () -> x.sentence(0, 0, 0, 0, false));
        Due.is(true, "the game has no such bound", () -> x.game(0, 0, 1, 0).length() > 20);
        Due.is(true, "nor what is sound", x::isSound);
        Due.told(x, "1=(a.(a.0+a.0)+a.(a.b.0+a.c.0))", "4=(a.(a.X2+a.X2)+a.(a.X0+a.X1))");
        Due.graph(x, 0, "(a.(a.X3+a.X5)+a.(a.X3+a.X4))");
        Due.graph(x, 1, "(a.(a.X4+a.X5)+a.(a.X3+a.X4))");
        Due.is(400, "400 signs", () -> x.sentence(0, 0, 1, 0, false).length());
        Due.fails(Due.STATE, x, "401 signs", () -> x.sentence(1, 0, 0, 0, false));
    }

    /** "each one but once": of two answers, to which two more come each time, all by the same sentence */
    private static void sentenceOfLikeAnswers() {
        Twotalk x = two("a.".repeat(20) + "0", "X0", "0=(a.X0+a.X1)", "1=(a.X1+a.X0)");
        Due.is("a0 a1, a0 a1", "two answers each time", () -> x.steps(1, 0) + ", " + x.steps(1, 1));
        Due.is("<a>".repeat(20) + "!<a>T", "what has an end", () -> x.sentence(0, 0, 1, 0, false));
        Due.is("<a>".repeat(21) + "T", "what has none", () -> x.sentence(1, 0, 0, 0, false));
        Due.is("{a}".repeat(20) + "!{a}T", "what has an end, unseen", () -> x.sentence(0, 0, 1, 0, true));
        Due.is(true, "isSound", x::isSound);
    }

    /** "the SENTENCES that part p' from q', each one but once", for the q' by rising numbers */
    private static void sentenceOfManyAnswers() {
        Twotalk x = two("a.X6", "((X0+X1)+(X2+X3))", "0=(a.(a.0+(b.0+c.0))+a.(t.0+(b.0+c.0)))",
                "1=(a.((t.0+a.0)+c.0)+a.((t.0+a.0)+b.0))",
                "2=((a.(X6+d.0)+a.(X6+A.0))+(a.(X6+B.0)+a.(X6+C.0)))", "3=a.(X6+D.0)", "6=((t.0+a.0)+(b.0+c.0))");
        Due.is("a1 a2 a3 a4 a5 a6 a7 a8 a9", "nine answers", () -> x.steps(1, 0));
        String due = "<a>(<c>T&(<b>T&(!<A>T&(!<B>T&(!<C>T&(!<D>T&(!<d>T&(<t>T&<a>T))))))))";
        Due.is(due, "nine sentences", () -> x.sentence(0, 0, 1, 0, false));
        Due.is("<a>!<c>T", "nine steps to begin with", () -> x.sentence(1, 0, 0, 0, false));
        Due.is("0a1>1 0c2>-", "nine answers, each parted as late", () -> x.game(0, 0, 1, 0));
        Due.is(true, "isSound", x::isSound);
        String less = "((X1+X2)+((a.X6+a.b.X6)+(a.b.b.X6+a.b.b.b.X6)))";
        Twotalk y = two("(" + less + "+a.X7)", less, "5=b.b.b.b.b.0", "6=b.b.b.b.b.X5",
                "1=((a.0+a.b.0)+(a.b.b.0+(a.b.b.b.0+a.b.b.b.b.0)))",
                "2=((a.X5+a.b.X5)+(a.b.b.X5+(a.b.b.b.X5+a.b.b.b.b.X5)))", "7=b.X7");
        int[] rows = {0, 5, 10, 1, 6, 11, 2, 7, 12, 3, 8, 13, 4, 9};
        StringBuilder all = new StringBuilder("<a>");
        for (int i = 0; i < rows.length; i++) {
            all.append(i < rows.length - 1 ? "(" : "").append("<b>".repeat(rows[i] + 1)).append("T");
            all.append(i < rows.length - 1 ? "&" : ")".repeat(i));
        }
        Due.is(all.toString(), "a sentence for each of 14 answers", () -> y.sentence(0, 0, 1, 0, false));
        Due.is("!" + all, "back, without an act of its own", () -> y.sentence(1, 0, 0, 0, false));
        Due.is(371, "its length", () -> y.sentence(0, 0, 1, 0, true).length());
        Due.is("0a4>12 0b4>9 0b4>6 0b4>3 0b4>14 0b4>11 0b4>8 0b4>5 0b4>2 0b4>13 0b4>10 0b4>7 0b4>4 0b4>1 0b4>-",
                "the answer is parted latest", () -> y.game(0, 0, 1, 0));
        Due.is(true, "isSound", y::isSound);
    }

    private static void games(String there, String back, String one, String other, String... lines) {
        Twotalk x = two(one, other, lines);
        Due.is(there, "game of " + one + " and " + other, () -> x.game(0, 0, 1, 0));
        Due.is(back, "game of " + other + " and " + one, () -> x.game(1, 0, 0, 0));
        Due.fails(Due.ELEMENT, x, "game with itself", () -> x.game(0, 0, 0, 0));
    }

    private static void game() {
        games("0a1>-", "1a1>-", "a.0", "0");
        games("0a1>-", "0b1>-", "a.0", "b.0");
        games("0a1>1 0c2>-", "0a1>1 1c2>-", "a.(b.0+c.0)", "(a.b.0+a.c.0)");
        games("0a1>1 0a2>-", "0a1>1 1a2>-", "a.a.0", "a.0");
        games("0a1>1 0a2>2 0b3>-", "0a1>1 0a2>2 1b3>-", "a.a.b.0", "a.(a.0+a.c.0)");
        games("0a2>2 0a4>3 0a3>-", "0a2>2 0a3>4 1a3>-", "(a.a.a.0+a.A.0)", "(a.A.0+a.a.0)");
        games("1a1>1 0a2>-", "0a1>1 0A3>-", "a.a.a.0", "(a.A.0+a.a.0)");
        games("0a2>1 0b3>-", "0a2>1 0c3>-", "(a.A.0+a.b.0)", "(a.A.0+a.c.0)");
        games("0b2>-", "1b2>-", "(a.a.a.0+b.0)", "a.a.0");
        games("0a0>1 0a0>2 0a0>-", "0a1>0 0a2>0 1a0>-", "X0", "a.a.0", "0=a.X0");
        games("0a3>4 0b4>3 0c2>-", "0a4>3 0b3>4 1c2>-", "(t.D.0+(a.0+a.b.c.0))",
                "((t.D.0+t.(D.0|0))+(a.0+a.b.0))");
        games("1a3>2 0b1>4 1c1>-", "0a3>2 0b4>1 0c1>-", "(a.0+a.b.0)", "(a.0+(a.b.0+a.b.c.0))");
        Twotalk x = two("a.t.0", "a.0");
        Due.is("0a1>1 0t2>-", "game of those alike by unseen", () -> x.game(0, 0, 1, 0));
        Due.fails(Due.ELEMENT, x, "game of those alike by steps", () -> x.game(0, 2, 1, 1));
    }

    /** "to that of those for which both are PARTED latest (the first of these)", also of later rounds, on both sides */
    private static void gameOfLaterRounds() {
        games("0a1>1 0b3>3 0c4>-", "0a1>1 0b3>3 1c4>-", "(a.b.c.0+a.d.0)", "(a.b.0+a.d.0)");
        games("0a2>1 0b4>4 0c3>-", "0a1>2 0b4>4 1c3>-", "(a.b.c.0+a.X5)", "((a.(b.0|0)+a.X5)+a.b.0)", "5=d.0");
        games("0a2>2 0b4>3 0c3>-", "0a2>2 0b3>4 1c3>-", "(a.b.c.0+a.X5)", "(a.X5+a.b.0)", "5=d.0");
        games("1a2>1 0b2>-", "0a2>1 0d3>-", "a.b.c.0", "(a.b.0+a.d.0)");
        games("0d1>1 0a2>3 0b4>4 0c6>-", "0d1>1 0a3>2 0b4>4 1c6>-", "d.(a.(b.c.0|0)+a.X5)", "d.(a.X5+a.b.0)", "5=d.0");
        games("0d1>1 1a4>3 0b4>6 1c5>-", "0d1>1 0a4>3 0b6>4 0c5>-", "d.(a.X5+a.b.0)",
                "d.(a.X5+(a.b.0+a.b.c.0))", "5=d.0");
        games("0d1>1 0d2>2 0a3>4 0b5>5 0c7>-", "0d1>1 0d2>2 0a4>3 0b5>5 1c7>-", "d.d.(a.(b.c.0|0)+a.X5)",
                "d.d.(a.X5+a.b.0)", "5=d.0");
        Twotalk x = two("d.(a.(b.c.0|0)+a.X5)", "d.(a.X5+a.b.0)", "5=d.0");
        Due.is("0a2>3 0b4>4 0c6>-", "game from the states 1", () -> x.game(0, 1, 1, 1));
        Due.is("0a3>2 0b4>4 1c6>-", "game from the states 1, back", () -> x.game(1, 1, 0, 1));
        Due.is("0b4>4 0c6>-", "game from 2 and 3", () -> x.game(0, 2, 1, 3));
        Due.is("0b4>4 1c6>-", "game from 3 and 2", () -> x.game(1, 3, 0, 2));
        Due.is("0c6>-", "game from the states 4", () -> x.game(0, 4, 1, 4));
        Due.is("1c6>-", "game from the states 4, back", () -> x.game(1, 4, 0, 4));
        Due.is("0d1>-", "game from 0 and 1 of one graph", () -> x.game(0, 0, 0, 1));
        Due.is("0a2>-", "game from 1 and 0 of one graph", () -> x.game(0, 1, 0, 0));
        Due.fails(Due.ELEMENT, x, "game from 3 and 2, which are alike", () -> x.game(0, 3, 1, 2));
    }

    private static void classes() {
        Twotalk x = new Twotalk();
        x.example(1);
        Due.is("0 1 2 3 3", "by steps", () -> x.classes(0, 4));
        Due.is("0 1 2 0 0", "by branches", () -> x.classes(0, 3));
        Due.is("0 1 2 0 0", "by unseen", () -> x.classes(0, 2));
        x.example(0);
        Due.is("0 1 2 3", "by steps", () -> x.classes(0, 4));
        Due.is("0 1 1 3", "by branches", () -> x.classes(0, 3));
        Due.graph(x, 2, "(t.(a.0+(t.b.0+b.0))+t.(a.0+t.b.0))");
        Due.is("t1 t2", "its steps", () -> x.steps(2, 0));
        Due.is("0 0 0 3 4", "by unseen", () -> x.classes(2, 2));
        Due.is("0 1 2 3 4", "by branches", () -> x.classes(2, 3));
        Due.is("0", "one state", () -> x.classes(3, 2));
        for (int n : NO_GRAPH) {
            Due.fails(Due.INDEX, x, "classes of " + n, () -> x.classes(n, 2));
            Due.fails(Due.INDEX, x, "classes of " + n + " by 5", () -> x.classes(n, 5));
        }
        for (int look : new int[] {-1, 0, 1, 5, Integer.MIN_VALUE, Integer.MAX_VALUE}) {
            Due.fails(Due.ARGUMENT, x, "classes by " + look, () -> x.classes(0, look));
        }
    }

    private interface Asked {
        Object of(Twotalk x, int n, int p, int m, int q);
    }

    private static void wrongPlaces() {
        Asked[] all = {
            (x, n, p, m, q) -> x.isAlike(0, n, p, m, q), (x, n, p, m, q) -> x.isAlike(4, n, p, m, q),
            (x, n, p, m, q) -> x.round(n, p, m, q, true), Twotalk::word, Twotalk::refusal, Twotalk::game,
            (x, n, p, m, q) -> x.sentence(n, p, m, q, false), (x, n, p, m, q) -> x.sentence(n, p, m, q, true)};
        for (int i = 0; i < all.length; i++) {
            Asked asked = all[i];
            Twotalk x = two("a.b.0", "a.c.0");
            for (int n : NO_GRAPH) {
                Due.fails(Due.INDEX, x, i + " with the graph " + n, () -> asked.of(x, n, 0, 0, 0));
                Due.fails(Due.INDEX, x, i + " with the other graph " + n, () -> asked.of(x, 0, 0, n, 0));
            }
            for (int p : new int[] {-1, 3, 24, Integer.MIN_VALUE, Integer.MAX_VALUE}) {
                Due.fails(Due.INDEX, x, i + " with the state " + p, () -> asked.of(x, 0, p, 1, 0));
                Due.fails(Due.INDEX, x, i + " with the other state " + p, () -> asked.of(x, 0, 0, 1, p));
            }
            Due.fails(Due.INDEX, x, i + " with a state of a small graph", () -> asked.of(x, 3, 1, 0, 0));
        }
    }
}
