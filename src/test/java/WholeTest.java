/** Promises 39 to 42: the knock, the house, whether all is sound, the checksum. */
public final class WholeTest {
    public static void main(String[] args) {
        knock();
        house();
        housePairs();
        isSound();
        digest();
        digestOfEach();
        Due.end();
    }

    private static void knock() {
        Twotalk x = new Twotalk();
        for (int i = 1; i <= 20; i++) {
            int due = i;
            Due.is(due, "knock", x::knock);
        }
        Due.is(20, "house(6)", () -> x.house(6));
        Due.is(0, "of another house", () -> new Twotalk().house(6));
    }

    private static void house() {
        Twotalk x = Due.house("0=a.X0", "1=(X1+a.0)", "2=X3", "4=X0", "4=b.X5");
        Due.put(x, "a.0");
        Due.put(x, "b.0");
        Due.say(x, "T");
        Due.say(x, "<a>T");
        Due.say(x, "!T");
        Due.graph(x, 2, "b.0");
        Due.graph(x, 3, "X0");
        x.knock();
        int[] due = {2, 4, 2, 5, 2, 3, 1};
        for (int what = 0; what < due.length; what++) {
            int asked = what;
            Due.is(due[what], "house(" + what + ")", () -> x.house(asked));
        }
        for (int what : new int[] {-1, 10, Integer.MIN_VALUE, Integer.MAX_VALUE}) {
            Due.fails(Due.ARGUMENT, x, "house(" + what + ")", () -> x.house(what));
        }
    }

    private static void housePairs() {
        Twotalk x = new Twotalk();
        Due.graph(x, 0, "(a.0+(t.b.0+b.0))");
        Due.graph(x, 1, "(a.0+t.b.0)");
        Due.graph(x, 2, "a.t.0");
        Due.graph(x, 3, "(a.0|0)");
        int[] due = {1 + 1 + 1 + 10, 1 + 1 + 10, 1 + 6};
        for (int look = 2; look <= 4; look++) {
            int asked = look;
            Due.is(due[look - 2], "pairs alike by " + look, () -> x.house(5 + asked));
        }
        Twotalk y = new Twotalk();
        Due.graph(y, 1, "(a.0|a.0)");
        Due.is(4, "states of a graph", () -> y.ofGraph(1, 0));
        Due.is(7, "pairs of one graph, and of it with others", () -> y.house(9));
    }

    private static void isSound() {
        Twotalk x = new Twotalk();
        Due.is(true, "at first", x::isSound);
        for (int k = 0; k < 5; k++) {
            int asked = k;
            Due.is(true, "example " + k, () -> x.example(asked) > 0 && x.isSound());
        }
        for (int n = 0; n < 4; n++) {
            Twotalk y = new Twotalk();
            int more = n;
            for (int m = 0; m < 4; m++) {
                Due.graph(y, m, m == n ? "((a.b.0+a.c.0)+a.(b.0+c.0))" : "(a.b.0+a.c.0)");
            }
            Due.is(true, "one that can do more than three others", y::isSound);
            Due.is("<a>(<c>T&<b>T)", "what parts it", () -> y.sentence(more, 0, (more + 1) % 4, 0, false));
            Due.is("!<a>(<c>T&<b>T)", "what parts others", () -> y.sentence((more + 1) % 4, 0, more, 0, false));
        }
        Twotalk z = new Twotalk();
        for (int m = 0; m < 4; m++) {
            Due.graph(z, m, m % 2 == 0 ? "t.a.0" : "(t.a.0+a.0)");
        }
        Due.is("!<a>T, <a>T", "a step, and no weak one", () -> z.sentence(0, 0, 1, 0, false) + ", "
                + z.sentence(1, 0, 2, 0, false));
        Due.is(true, "what is true by steps, and not by weak ones", z::isSound);
        Due.graph(x, 2, "((a.b.0+a.c.0)+a.(b.0+t.c.0))");
        Due.graph(x, 3, "a.(b.0+(c.0+(b.0|0)))");
        String terms = x.term(0, 0) + x.term(1, 0) + x.term(2, 0) + x.term(3, 0);
        long before = x.digest();
        Due.is(true, "others", x::isSound);
        Due.is(before, "it changes nothing", x::digest);
        Due.is(terms, "it changes no graph", () -> x.term(0, 0) + x.term(1, 0) + x.term(2, 0) + x.term(3, 0));
        Due.is(4, "it changes no graph", () -> x.ofGraph(3, 0));
    }

    private static void digest() {
        Due.is(1259808088026214589L, "digest of a new one", () -> new Twotalk().digest());
        long[] due = {6547080802914559135L, 2182173146083548482L, -5893309748125792778L, 8328457805118914771L,
            -7512982234124348293L};
        for (int k = 0; k < 5; k++) {
            Twotalk x = new Twotalk();
            x.example(k);
            Due.is(due[k], "digest of the example " + k, x::digest);
            Due.is(due[k], "and again", x::digest);
        }
    }

    /** The checksum by the other calls, in the order that the document tells. */
    private static long byHand(Twotalk x) {
        long d = 6810;
        for (int what = 0; what <= 9; what++) {
            d = d * 31 + x.house(what);
        }
        for (int n = 0; n < 4; n++) {
            for (int what = 0; what <= 5; what++) {
                d = d * 31 + x.ofGraph(n, what);
            }
            for (int p = 0; p < x.ofGraph(n, 0); p++) {
                for (int what = 0; what <= 5; what++) {
                    d = d * 31 + x.ofState(n, p, what);
                }
                d = d * 31 + x.steps(n, p).length();
                d = d * 31 + x.term(n, p).length();
            }
            for (int look = 2; look <= 4; look++) {
                d = d * 31 + x.classes(n, look).length();
            }
        }
        for (int k = 0; k < 8; k++) {
            d = d * 31 + x.meant(k).length();
        }
        for (int n = 0; n < 4; n++) {
            for (int m = n + 1; m < 4; m++) {
                for (int look = 2; look <= 4; look++) {
                    d = d * 31 + (x.isAlike(look, n, 0, m, 0) ? 1 : 0);
                }
                d = d * 31 + (x.may(n, m) ? 1 : 0);
                d = d * 31 + (x.must(n, m) ? 1 : 0);
            }
        }
        return d * 31 + (x.isSound() ? 1 : 0);
    }

    private interface Change {
        void on(Twotalk x);
    }

    /** Each kind of change shows in the checksum; each is asked of a new house, which has all those ahead of it too. */
    private static void digestOfEach() {
        Change[] all = {y -> y.nil(), y -> y.tell(5), y -> y.knock(), y -> y.say(0, 0), y -> y.unsay(),
            y -> y.example(0), y -> y.name(0), y -> y.graph(3), y -> Due.graph(y, 2, "A.d.0"), y -> y.smallest(0, 1)};
        for (int i = 0; i < all.length; i++) {
            Twotalk x = Due.house("0=a.X0");
            for (int j = 0; j < i; j++) {
                all[j].on(x);
            }
            long before = x.digest();
            all[i].on(x);
            Due.is(true, "the digest changes by " + i, () -> x.digest() != before);
            Due.is(byHand(x), "the digest behind " + i, x::digest);
        }
    }
}
