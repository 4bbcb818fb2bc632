/** Promises 30 to 34: the desk, its sentences, and where they are true. */
public final class SentencesTest {
    public static void main(String[] args) {
        say();
        sayTooMuch();
        unsay();
        said();
        depth();
        isTrue();
        isTrueOfEachKind();
        isTrueOfBoth();
        Due.end();
    }

    private static void say() {
        Twotalk x = new Twotalk();
        for (int what = 1; what <= 5; what++) {
            int asked = what;
            Due.fails(Due.STATE, x, "say(" + what + ") on an empty desk", () -> x.say(asked, 0));
        }
        Due.is(1, "true", () -> x.say(0, 0));
        Due.fails(Due.STATE, x, "both of one", () -> x.say(2, 0));
        Due.is(1, "for some", () -> x.say(3, 1));
        Due.is(2, "true", () -> x.say(0, 77));
        Due.is(2, "not", () -> x.say(1, -5));
        Due.is(1, "both", () -> x.say(2, 1000));
        Due.is("(<a>T&!T)", "the one below stands first", x::said);
        Due.is(1, "for all", () -> x.say(4, 8));
        Due.is(1, "for some weak step", () -> x.say(5, 0));
        Due.is("{t}[D](<a>T&!T)", "all kinds", x::said);
        Due.is(1, "the stack is another thing", x::nil);
        Due.is(1, "the desk is counted", () -> x.house(5));
        for (int what : new int[] {-1, 6, Integer.MIN_VALUE, Integer.MAX_VALUE}) {
            Due.fails(Due.ARGUMENT, x, "say(" + what + ")", () -> x.say(what, 0));
            Due.fails(Due.ARGUMENT, x, "say(" + what + ") by no act", () -> x.say(what, 9));
        }
        for (int what = 3; what <= 5; what++) {
            int asked = what;
            for (int act : new int[] {-1, 9, Integer.MIN_VALUE, Integer.MAX_VALUE}) {
                Due.fails(Due.INDEX, x, "say(" + what + ", " + act + ")", () -> x.say(asked, act));
                Due.fails(Due.INDEX, new Twotalk(), "the act counts first", () -> new Twotalk().say(asked, act));
            }
        }
    }

    private static void sayTooMuch() {
        Twotalk x = new Twotalk();
        for (int i = 1; i <= 6; i++) {
            int due = i;
            Due.is(due, "true", () -> x.say(0, 0));
        }
        Due.fails(Due.STATE, x, "a seventh", () -> x.say(0, 0));
        for (int signs = 2; signs <= 24; signs++) {
            int what = new int[] {1, 3, 4, 5}[signs % 4];
            Due.is(6, "up to 24 signs", () -> x.say(what, 2));
        }
        for (int what : new int[] {1, 3, 4, 5}) {
            Due.fails(Due.STATE, x, "25 signs by " + what, () -> x.say(what, 2));
        }
        Due.fails(Due.STATE, x, "26 signs by both", () -> x.say(2, 2));
        x.unsay();
        for (int signs = 2; signs <= 22; signs++) {
            x.say(1, 0);
        }
        Due.is(4, "both of 1 and 22", () -> x.say(2, 0));
        Due.fails(Due.STATE, x, "both of 1 and 24", () -> x.say(2, 0));
        Due.fails(Due.STATE, x, "not of 24", () -> x.say(1, 0));
        Due.is(5, "another one", () -> x.say(0, 0));
        Due.fails(Due.STATE, x, "both of 24 and 1", () -> x.say(2, 0));
        Twotalk y = new Twotalk();
        Due.say(y, "T");
        Due.say(y, "!!!!!!!!!!!!!!!!!!!!!!T");
        Due.fails(Due.STATE, y, "both of 1 and 23", () -> y.say(2, 0));
    }

    private static void unsay() {
        Twotalk x = new Twotalk();
        Due.fails(Due.ELEMENT, x, "unsay of none", x::unsay);
        Due.say(x, "<a>T");
        Due.say(x, "!T");
        Due.is(1, "unsay", x::unsay);
        Due.is("<a>T", "what was below", x::said);
        Due.is(0, "unsay", x::unsay);
        Due.fails(Due.ELEMENT, x, "unsay of none", x::unsay);
    }

    private static void said() {
        Twotalk x = new Twotalk();
        Due.fails(Due.ELEMENT, x, "said of none", x::said);
        String[] all = {"T", "!!T", "(T&T)", "(!<t>T&([A]{b}T&(T&T)))", "<a><b><c><d><A><B><C><D><t>T",
            "{D}((T&!T)&[d](<b>T&<C>T))"};
        for (String each : all) {
            Due.say(x, each);
            Due.is(each, "said", x::said);
            x.unsay();
        }
    }

    private static void depth() {
        Twotalk x = new Twotalk();
        Due.fails(Due.ELEMENT, x, "depth of none", x::depth);
        String[] all = {"T", "!!T", "<a>T", "(T&[a]T)", "(<a>T&<b>T)", "!<a>!{b}[c]T", "({t}{t}{t}T&[a]T)",
            "([a]T&{t}{t}{t}T)", "<b>([a]T&({t}(T&<c>T)&!T))", "((<a><a>T&T)&<b>T)", "((<a>T&<b>T)&([c][c][c]T&T))",
            "([a]((T&{b}{c}T)&T)&(T&(T&<d>T)))"};
        int[] due = {0, 0, 1, 1, 1, 3, 3, 3, 3, 2, 3, 3};
        for (int i = 0; i < all.length; i++) {
            Due.say(x, all[i]);
            Due.is(due[i], "depth of " + all[i], x::depth);
            x.unsay();
        }
        Due.say(x, "<a>T");
        Due.say(x, "T");
        Due.is(0, "of the last one alone", x::depth);
    }

    private static void isTrue() {
        Twotalk x = new Twotalk();
        Due.graph(x, 2, "(a.b.0+c.0)");
        Due.fails(Due.ELEMENT, x, "isTrue without a sentence", () -> x.isTrue(0, 0));
        Due.fails(Due.INDEX, x, "isTrue of no state without a sentence", () -> x.isTrue(0, 1));
        Due.say(x, "T");
        Due.say(x, "<a><b>T");
        Due.is(true, "the last one", () -> x.isTrue(2, 0));
        Due.is(false, "the last one", () -> x.isTrue(2, 1));
        Due.is(false, "the last one", () -> x.isTrue(0, 0));
        Due.is("<a><b>T", "it stays", x::said);
        for (int n : new int[] {-1, 4, Integer.MIN_VALUE, Integer.MAX_VALUE}) {
            Due.fails(Due.INDEX, x, "isTrue of the graph " + n, () -> x.isTrue(n, 0));
        }
        for (int p : new int[] {-1, 3, 24, Integer.MIN_VALUE, Integer.MAX_VALUE}) {
            Due.fails(Due.INDEX, x, "isTrue of the state " + p, () -> x.isTrue(2, p));
        }
    }

    /** The states of the graph 0 of which a sentence is true. */
    private static void where(Twotalk x, String sentence, String due) {
        Due.say(x, sentence);
        StringBuilder found = new StringBuilder();
        for (int p = 0; p < x.ofGraph(0, 0); p++) {
            found.append(x.isTrue(0, p) ? "" + p : "");
        }
        Due.is(due, "where " + sentence + " is true", found::toString);
        x.unsay();
    }

    private static void isTrueOfEachKind() {
        Twotalk x = Due.house("0=(a.X0+t.b.X1)", "1=(t.c.0+a.0)");
        Due.graph(x, 0, "X0");
        Due.is("t1 a0/b2/t3 a4/c4/", "its steps", () -> x.steps(0, 0) + "/" + x.steps(0, 1) + "/" + x.steps(0, 2)
                + "/" + x.steps(0, 3) + "/" + x.steps(0, 4));
        where(x, "T", "01234");
        where(x, "!T", "");
        where(x, "<a>T", "02");
        where(x, "[a]!T", "134");
        where(x, "[a]<a>T", "0134");
        where(x, "{a}T", "02");
        where(x, "<b>T", "1");
        where(x, "{b}T", "01");
        where(x, "{c}T", "23");
        where(x, "{t}<b>T", "01");
        where(x, "{t}T", "01234");
        where(x, "<t>T", "02");
        where(x, "[t]!T", "134");
        where(x, "{b}<c>T", "01");
        where(x, "<b><c>T", "");
        where(x, "<b><t><c>T", "1");
        where(x, "{a}<t>T", "0");
        where(x, "{a}<b>T", "0");
        where(x, "(<a>T&<t>T)", "02");
        where(x, "(<a>T&!<t>T)", "");
        where(x, "!(<a>T&{c}T)", "0134");
        where(x, "[t]<c>T", "1234");
        where(x, "[D]!T", "01234");
        where(x, "<a>(<a>T&[t]<b>T)", "0");
    }

    /** "both" of two that are "both" themselves, below and above. */
    private static void isTrueOfBoth() {
        Twotalk x = Due.house("0=(a.X0+t.b.X1)", "1=(t.c.0+a.0)");
        Due.graph(x, 0, "X0");
        where(x, "((<a>T&<t>T)&<a><a>T)", "0");
        where(x, "((<a>T&!<b>T)&(<t>T&[a]!<a>T))", "2");
        where(x, "(((<a>T&T)&<t>T)&!<a><a>T)", "2");
        where(x, "((T&!<a>T)&!(<b>T&T))", "34");
        where(x, "(T&(!<a>T&(!<b>T&!<c>T)))", "4");
        where(x, "!((!<b>T&!<c>T)&(!<a>T&!<t>T))", "0123");
    }
}
