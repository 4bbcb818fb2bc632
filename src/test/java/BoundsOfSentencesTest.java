/** The bounds that section 4 and the promises 30 to 34 name, sentence by sentence. */
public final class BoundsOfSentencesTest {
    private static final String STEPS_24 = "a.a.a.a.a.a.a.a.a.a.a.a.a.a.a.a.a.a.a.a.a.a.a.0";
    private static final int[] AROUND = {1, 3, 4, 5};
    private static final String[] BEGINS = {"!", "<D>", "[D]", "{D}"};

    public static void main(String[] args) {
        sayWhat();
        sayAct();
        sayActNotLookedAt();
        sayIfThereAre6();
        sayIfNone();
        sayIfLessThanTwo();
        signsOfOne();
        signsOfBoth();
        signsOfEachKind();
        unsayIfNone();
        saidIfNone();
        saidOfTheLargest();
        depthIfNone();
        depthOfNoneAndOfAll();
        isTrueNumbers();
        isTrueIfNone();
        isTrueWithoutSteps();
        Due.end();
    }

    /** A house with so many sentences on its desk, "T" the lowest one, then "!T" and so on. */
    private static Edge.House desk(int count) {
        return () -> {
            Twotalk x = Due.house("1=a.X1");
            Due.graph(x, 2, "(a.b.0+X1)");
            Due.put(x, "t.0");
            for (int i = 0; i < count; i++) {
                Due.say(x, "!".repeat(i) + "T");
            }
            return x;
        };
    }

    /** A house with two more sentences on its desk. */
    private static Edge.House last(String below, String sentence) {
        return () -> {
            Twotalk x = desk(1).made();
            Due.say(x, below);
            Due.say(x, sentence);
            return x;
        };
    }

    private static Edge.House emptied(int count) {
        return () -> {
            Twotalk x = desk(count).made();
            for (int i = 0; i < count; i++) {
                x.unsay();
            }
            return x;
        };
    }

    private static String signs(int count) {
        return "!".repeat(count - 1) + "T";
    }

    /** "Throws IllegalArgumentException if what is not 0 to 5", first of all */
    private static void sayWhat() {
        Edge.range(Due.ARGUMENT, 0, 5, "say", desk(2), (x, what) -> x.say(what, 0));
        Edge.outside(Due.ARGUMENT, 0, 5, "say by no act", desk(2), (x, what) -> x.say(what, 9));
        Edge.outside(Due.ARGUMENT, 0, 5, "say by no act", desk(6), (x, what) -> x.say(what, -1));
        Edge.outside(Due.ARGUMENT, 0, 5, "say on an empty desk", Twotalk::new, (x, what) -> x.say(what, -1));
        Edge.outside(Due.ARGUMENT, 0, 5, "say of 24 signs", last("T", signs(24)), (x, what) -> x.say(what, 9));
        String[] due = {"T", "!!T", "(T&!T)", "<D>!T", "[D]!T", "{D}!T"};
        int[] left = {3, 2, 1, 2, 2, 2};
        for (int what = 0; what <= 5; what++) {
            int asked = what;
            Edge.allowed(left[what] + due[what], "say(" + what + ")", desk(2), x -> x.say(asked, 8) + x.said());
        }
    }

    /** "Throws IndexOutOfBoundsException if act is looked at, and not 0 to 8", ahead of the state of the desk */
    private static void sayAct() {
        String letters = "tabcdABCD";
        String[] around = {"<>", "[]", "{}"};
        for (int what = 3; what <= 5; what++) {
            int asked = what;
            String marks = around[what - 3];
            Edge.range(Due.INDEX, 0, 8, "say " + what + " by", desk(1), (x, act) -> x.say(asked, act));
            Edge.outside(Due.INDEX, 0, 8, "say " + what + " on an empty desk, by", Twotalk::new,
                    (x, act) -> x.say(asked, act));
            Edge.outside(Due.INDEX, 0, 8, "say " + what + " of 24 signs, by", last("T", signs(24)),
                    (x, act) -> x.say(asked, act));
            for (int act = 0; act <= 8; act++) {
                int by = act;
                Edge.allowed("" + marks.charAt(0) + letters.charAt(act) + marks.charAt(1) + "T",
                        "say " + what + " by " + act, desk(1), x -> x.say(asked, by) == 1 ? x.said() : "");
            }
        }
    }

    /** "(of 3 to 5 alone looked at)" */
    private static void sayActNotLookedAt() {
        for (int act : new int[] {-1, 9, Integer.MIN_VALUE, Integer.MAX_VALUE}) {
            Edge.allowed("3T", "say(0, " + act + ")", desk(2), x -> x.say(0, act) + x.said());
            Edge.allowed("2!!T", "say(1, " + act + ")", desk(2), x -> x.say(1, act) + x.said());
            Edge.allowed("1(T&!T)", "say(2, " + act + ")", desk(2), x -> x.say(2, act) + x.said());
            Edge.refused(Due.STATE, "say(0, " + act + ") if there are 6", desk(6), x -> x.say(0, act));
            Edge.refused(Due.STATE, "say(1, " + act + ") on an empty desk", Twotalk::new, x -> x.say(1, act));
            Edge.refused(Due.STATE, "say(2, " + act + ") of one", desk(1), x -> x.say(2, act));
        }
    }

    /** "The DESK has at most 6 SENTENCES" "Throws IllegalStateException if there are 6 (0)" */
    private static void sayIfThereAre6() {
        for (int count = 0; count < 6; count++) {
            Edge.allowed(count + 1, "say(0) on " + count, desk(count), x -> x.say(0, 0));
        }
        Edge.refused(Due.STATE, "say(0) on 6", desk(6), x -> x.say(0, 0));
        Edge.allowed(6, "say(0) on 6, the last of which is taken away", desk(6),
                x -> x.unsay() == 5 ? x.say(0, 0) : 0);
        Edge.allowed("6!!!!!!T", "not on 6", desk(6), x -> x.say(1, 0) + x.said());
        Edge.allowed("5(!!!!T&!!!!!T)", "both on 6", desk(6), x -> x.say(2, 0) + x.said());
        Edge.allowed("6<t>!!!!!T", "for some on 6", desk(6), x -> x.say(3, 0) + x.said());
    }

    /** "none (1, 3 to 5)" */
    private static void sayIfNone() {
        for (int what : AROUND) {
            Edge.refused(Due.STATE, "say(" + what + ") on an empty desk", Twotalk::new, x -> x.say(what, 0));
            Edge.refused(Due.STATE, "say(" + what + ") on an emptied desk", emptied(6), x -> x.say(what, 8));
            Edge.allowed(1, "say(" + what + ") on one", desk(1), x -> x.say(what, 0));
        }
    }

    /** "less than two (2)" */
    private static void sayIfLessThanTwo() {
        Edge.refused(Due.STATE, "both of none", Twotalk::new, x -> x.say(2, 0));
        Edge.refused(Due.STATE, "both of none, on an emptied desk", emptied(2), x -> x.say(2, 0));
        Edge.refused(Due.STATE, "both of one", desk(1), x -> x.say(2, 0));
        Edge.allowed("1(T&!T)", "both of two", desk(2), x -> x.say(2, 0) + x.said());
        Edge.allowed("2(!T&!!T)", "both of three", desk(3), x -> x.say(2, 0) + x.said());
    }

    /** "no one has more than 24 of the signs" "or it would have too many signs" (1, 3 to 5) */
    private static void signsOfOne() {
        for (int i = 0; i < AROUND.length; i++) {
            int what = AROUND[i];
            Edge.allowed(3, "say(" + what + ") of 22 signs", last("T", signs(22)), x -> x.say(what, 8));
            Edge.allowed("3" + BEGINS[i] + signs(23), "say(" + what + ") of 23 signs", last("T", signs(23)),
                    x -> x.say(what, 8) + x.said());
            Edge.refused(Due.STATE, "say(" + what + ") of 24 signs", last("T", signs(24)), x -> x.say(what, 8));
            Edge.refused(Due.STATE, "say(" + what + ") of 24 signs, once both",
                    last("T", "(" + signs(11) + "&" + signs(12) + ")"), x -> x.say(what, 8));
            Edge.allowed(3, "say(" + what + ") of one above 24 signs", last(signs(24), "T"), x -> x.say(what, 8));
        }
    }

    /** "or it would have too many signs" (2) */
    private static void signsOfBoth() {
        for (int size = 1; size <= 22; size++) {
            String below = signs(size);
            String above = signs(23 - size);
            Edge.allowed("2(" + below + "&" + above + ")", "both of " + size + " and " + (23 - size),
                    last(below, above), x -> x.say(2, 0) + x.said());
            Edge.refused(Due.STATE, "both of " + size + " and " + (24 - size), last(below, signs(24 - size)),
                    x -> x.say(2, 0));
        }
        Edge.refused(Due.STATE, "both of 23 and 1", last(signs(23), "T"), x -> x.say(2, 0));
        Edge.refused(Due.STATE, "both of 24 and 1", last(signs(24), "T"), x -> x.say(2, 0));
        Edge.refused(Due.STATE, "both of 1 and 24", last("T", signs(24)), x -> x.say(2, 0));
        Edge.refused(Due.STATE, "both of 24 and 24", last(signs(24), signs(24)), x -> x.say(2, 0));
    }

    /** "24 of the signs T, !, &, <, [ and {": each counts as one, brackets and acts do not */
    private static void signsOfEachKind() {
        String[] all = {"<a>".repeat(23) + "T", "[a]".repeat(23) + "T", "{a}".repeat(23) + "T", "!".repeat(23) + "T",
            "(T&(T&(T&" + signs(18) + ")))", "(".repeat(11) + "!T" + "&T)".repeat(11),
            "!<a>[b]{c}(!<A>[B]{C}T&(!<A>[B]{C}(T&<t>[t]{t}!T)&!T))"};
        for (String each : all) {
            Edge.allowed(each, "24 signs", last("T", each), Twotalk::said);
            for (int what : AROUND) {
                Edge.refused(Due.STATE, "say(" + what + ") of " + each, last("T", each), x -> x.say(what, 0));
            }
            Edge.refused(Due.STATE, "both of T and " + each, last("T", each), x -> x.say(2, 0));
        }
    }

    /** "Throws NoSuchElementException if there is none" (unsay) */
    private static void unsayIfNone() {
        Edge.refused(Due.ELEMENT, "unsay of none", Twotalk::new, Twotalk::unsay);
        Edge.refused(Due.ELEMENT, "unsay on an emptied desk", emptied(6), Twotalk::unsay);
        for (int count = 1; count <= 6; count++) {
            Edge.allowed(count - 1, "unsay of " + count, desk(count), Twotalk::unsay);
        }
        Edge.allowed("T", "unsay of two leaves the lower one", desk(2), x -> x.unsay() == 1 ? x.said() : "");
    }

    /** "Throws NoSuchElementException if there is none" (said) */
    private static void saidIfNone() {
        Edge.refused(Due.ELEMENT, "said of none", Twotalk::new, Twotalk::said);
        Edge.refused(Due.ELEMENT, "said on an emptied desk", emptied(6), Twotalk::said);
        Edge.allowed("T", "said of one", desk(1), Twotalk::said);
        Edge.allowed("!!!!!T", "said of six", desk(6), Twotalk::said);
    }

    private static void saidOfTheLargest() {
        String longest = "{D}".repeat(23) + "T";
        Edge.allowed(longest, "the longest text", last("T", longest), Twotalk::said);
        Edge.House full = () -> {
            Twotalk x = new Twotalk();
            for (int i = 0; i < 6; i++) {
                Due.say(x, longest);
            }
            return x;
        };
        Edge.allowed(6, "six of 24 signs", full, x -> x.house(5));
        Edge.refused(Due.STATE, "a seventh", full, x -> x.say(0, 0));
        Edge.refused(Due.STATE, "a 25th sign", full, x -> x.say(5, 0));
    }

    /** "Throws NoSuchElementException if there is none" (depth) */
    private static void depthIfNone() {
        Edge.refused(Due.ELEMENT, "depth of none", Twotalk::new, Twotalk::depth);
        Edge.refused(Due.ELEMENT, "depth on an emptied desk", emptied(6), Twotalk::depth);
        Edge.allowed(0, "depth of one", desk(1), Twotalk::depth);
    }

    /** "how many of the last three stand in one another at most" */
    private static void depthOfNoneAndOfAll() {
        Edge.allowed(0, "depth of !!T", last("<a>T", "!!T"), Twotalk::depth);
        Edge.allowed(0, "depth of both", last("<a>T", "(T&!T)"), Twotalk::depth);
        for (String each : new String[] {"<a>", "[a]", "{a}"}) {
            Edge.allowed(1, "depth of " + each + "T", last("T", each + "T"), Twotalk::depth);
            Edge.allowed(23, "depth of 23 " + each, last("T", each.repeat(23) + "T"), Twotalk::depth);
        }
        Edge.allowed(11, "depth of both, below", last("T", "(" + "<a>".repeat(11) + "T&" + "<a>".repeat(10) + "T)"),
                Twotalk::depth);
        Edge.allowed(11, "depth of both, above", last("T", "(" + "<a>".repeat(10) + "T&" + "<a>".repeat(11) + "T)"),
                Twotalk::depth);
    }

    /** "Throws IndexOutOfBoundsException if n is not 0 to 3, or there is no such STATE" (isTrue), first of both */
    private static void isTrueNumbers() {
        Edge.range(Due.INDEX, 0, 3, "isTrue, the graph", desk(1), (x, n) -> x.isTrue(n, 0));
        Edge.range(Due.INDEX, 0, 2, "isTrue of three", () -> rowed("a.b.0"), (x, p) -> x.isTrue(1, p));
        Edge.range(Due.INDEX, 0, 0, "isTrue of one", () -> rowed("a.b.0"), (x, p) -> x.isTrue(0, p));
        Edge.range(Due.INDEX, 0, 23, "isTrue of 24", () -> rowed(STEPS_24), (x, p) -> x.isTrue(1, p));
        Edge.outside(Due.INDEX, 0, 3, "isTrue, the graph, on an empty desk", Twotalk::new, (x, n) -> x.isTrue(n, 0));
        Edge.outside(Due.INDEX, 0, 0, "isTrue of one, on an empty desk", Twotalk::new, (x, p) -> x.isTrue(0, p));
        for (int p = 0; p <= 23; p++) {
            int state = p;
            Edge.allowed(p < 22, "isTrue of the state " + p, () -> rowed(STEPS_24), x -> x.isTrue(1, state));
        }
    }

    private static Twotalk rowed(String row) {
        Twotalk x = new Twotalk();
        Due.graph(x, 1, row);
        Due.say(x, "T");
        Due.say(x, "<a><a>T");
        return x;
    }

    /** "Throws NoSuchElementException if there is none" (isTrue) */
    private static void isTrueIfNone() {
        Edge.refused(Due.ELEMENT, "isTrue on an empty desk", Twotalk::new, x -> x.isTrue(0, 0));
        Edge.refused(Due.ELEMENT, "isTrue on an emptied desk", emptied(6), x -> x.isTrue(3, 0));
        Edge.allowed(true, "isTrue of one", desk(1), x -> x.isTrue(0, 0));
        Edge.allowed(false, "isTrue of six", desk(6), x -> x.isTrue(3, 0));
    }

    /** "for some STEP", "for all", "for some WEAK STEP": of a state without any */
    private static void isTrueWithoutSteps() {
        String[] all = {"T", "!T", "<a>T", "<t>T", "[a]T", "[a]!T", "[t]!T", "{a}T", "{t}T", "{t}!T", "!{t}<a>T"};
        boolean[] is = {true, false, false, false, true, true, true, false, true, false, true};
        for (int i = 0; i < all.length; i++) {
            Edge.allowed(is[i], all[i] + " of nil", last("T", all[i]), x -> x.isTrue(0, 0));
        }
        Edge.allowed(true, "23 steps of 24 states", () -> {
            Twotalk x = rowed(STEPS_24);
            Due.say(x, "<a>".repeat(23) + "T");
            return x;
        }, x -> x.isTrue(1, 0) && !x.isTrue(1, 1));
    }
}
