import java.math.BigInteger;
import java.util.NoSuchElementException;

/** The bounds that the promises 39 to 42 name, and what is told of all calls: what is refused changes nothing. */
public final class BoundsOfWholeTest {
    private static final String STEPS_24 = "a.a.a.a.a.a.a.a.a.a.a.a.a.a.a.a.a.a.a.a.a.a.a.0";
    private static final String LONGEST = "{D}{D}{D}{D}{D}{D}{D}{D}{D}{D}{D}{D}{D}{D}{D}{D}{D}{D}{D}{D}{D}{D}{D}T";
    private static final int USED = 512;

    public static void main(String[] args) {
        knocks();
        usedFor512Calls();
        houseWhat();
        houseOfNoneAndOfAll();
        soundAtTheBounds();
        signsOfClasses();
        digestWrapsAround();
        digestOfBounds();
        refusedAllInAFullHouse();
        refusedAllInANewHouse();
        refusedAllInASmallHouse();
        Due.end();
    }

    /** Eight terms, six sentences, the last ones as large as may be, eight names, four graphs of 24 like states. */
    private static Twotalk full() {
        Twotalk x = Due.house("0=" + STEPS_24.replace("0", "X1"), "1=a.X1", "2=X0", "3=0", "4=0", "5=0", "6=0", "7=0");
        for (int n = 0; n < 4; n++) {
            Due.graph(x, n, "X0");
        }
        for (int i = 0; i < 5; i++) {
            Due.say(x, "T");
        }
        Due.say(x, LONGEST);
        for (int i = 0; i < 7; i++) {
            x.name(i);
        }
        Due.put(x, STEPS_24.replace("0", "X2"));
        return x;
    }

    /** A few of each, and graphs past the bound of words, of sentences, of forms. */
    private static Twotalk small() {
        Twotalk x = Due.house("0=(a.(a.b.0+a.d.0)+a.(a.b.0+a.c.0))", "1=(a.(a.c.0+a.d.0)+a.(a.b.0+a.c.0))",
                "2=(a.(a.c.0+a.d.0)+a.(a.b.0+a.d.0))", "3=(a.(a.X0+a.X2)+a.(a.X0+a.X1))",
                "4=(a.(a.X1+a.X2)+a.(a.X0+a.X1))", "5=(a.(a.X1+a.X2)+a.(a.X0+a.X2))");
        Due.graph(x, 0, "(a.(a.X3+a.X5)+a.(a.X3+a.X4))");
        Due.graph(x, 1, "(a.(a.X4+a.X5)+a.(a.X3+a.X4))");
        Due.told(x, "1=a.a.a.a.a.X1", "2=a.a.a.a.a.a.a.X2", "3=a.a.a.a.a.a.a.a.a.X3", "4=a.X4");
        Due.graph(x, 2, "(t.X1+(t.X2+t.X3))");
        Due.graph(x, 3, "a.X4");
        Due.put(x, "(X7|X1)");
        Due.say(x, "T");
        return x;
    }

    /** "Returns how often one knocked, with this." */
    private static void knocks() {
        Edge.allowed(1, "the first knock", Twotalk::new, Twotalk::knock);
        Edge.allowed(0, "no knock", Twotalk::new, x -> x.house(6));
        Edge.allowed(1, "the first knock at a full house", BoundsOfWholeTest::full, Twotalk::knock);
        Edge.allowed("2 2", "two knocks", Twotalk::new, x -> x.knock() + x.knock() - 1 + " " + x.house(6));
    }

    /** "An object is used for at most 512 calls after it has been made" */
    private static void usedFor512Calls() {
        Twotalk x = new Twotalk();
        for (int i = 1; i <= USED; i++) {
            int due = i;
            Due.is(due, "the knock " + i, x::knock);
        }
        Edge.House house = () -> new Twotalk();
        Edge.allowed("9 t1 t2", "510 examples, another one, and what it has made", house, y -> {
            for (int i = 0; i < USED - 2; i++) {
                y.example(i % 5);
            }
            return y.example(1) + " " + y.steps(0, 0);
        });
        Edge.allowed(1259808088026214589L, "512 checksums", house, y -> {
            for (int i = 1; i < USED; i++) {
                y.digest();
            }
            return y.digest();
        });
        Edge.allowed(8, "512 terms and drops", house, y -> {
            for (int i = 0; i < 252; i++) {
                y.nil();
                y.drop();
            }
            for (int i = 1; i < 8; i++) {
                y.nil();
            }
            return y.nil();
        });
    }

    /** "Throws IllegalArgumentException if what is not 0 to 9" */
    private static void houseWhat() {
        Edge.range(Due.ARGUMENT, 0, 9, "house", Twotalk::new, Twotalk::house);
        Edge.range(Due.ARGUMENT, 0, 9, "house of a small house", BoundsOfWholeTest::small, Twotalk::house);
        Edge.range(Due.ARGUMENT, 0, 9, "house of a full house", BoundsOfWholeTest::full, Twotalk::house);
    }

    private static void houseOfNoneAndOfAll() {
        int[] none = {0, 0, 0, 4, 0, 0, 0, 6, 6, 6};
        int[] all = {8, 8, 8, 96, 96, 6, 0, 96 * 95 / 2, 96 * 95 / 2, 96 * 95 / 2};
        int[] row = {0, 0, 0, 96, 92, 0, 0, 24 * 6, 24 * 6, 24 * 6};
        for (int what = 0; what <= 9; what++) {
            int asked = what;
            Edge.allowed(none[what], "house(" + what + ") of none", Twotalk::new, x -> x.house(asked));
            Edge.allowed(all[what], "house(" + what + ") of all", BoundsOfWholeTest::full, x -> x.house(asked));
            Edge.allowed(row[what], "house(" + what + ") of rows", () -> {
                Twotalk x = new Twotalk();
                for (int n = 0; n < 4; n++) {
                    Due.graph(x, n, STEPS_24);
                }
                return x;
            }, x -> x.house(asked));
        }
    }

    /** "(if that has no BOUND that is not kept)"; a text that would be too long, a form without an end */
    private static void soundAtTheBounds() {
        Edge.allowed(true, "isSound of a new house", Twotalk::new, Twotalk::isSound);
        Edge.allowed(true, "isSound of a full house", BoundsOfWholeTest::full, Twotalk::isSound);
        Edge.allowed(true, "isSound past the bounds", BoundsOfWholeTest::small, Twotalk::isSound);
        Edge.allowed("true!<a>T", "isSound, though the first one has no act of its own", () -> rows("0", "a.0"),
                x -> x.isSound() + x.sentence(0, 0, 1, 0, false));
        Edge.allowed("true<a>T", "isSound, though the second one has none", () -> rows("a.0", "0"),
                x -> x.isSound() + x.sentence(0, 0, 1, 0, false));
        Edge.allowed("true!<a><a>T", "isSound of rows", () -> rows("(a.0+a.0)", "(a.0+a.a.0)", "(a.a.0+a.a.a.0)"),
                x -> x.isSound() + x.sentence(0, 0, 1, 0, false));
        Edge.refused(Due.STATE, "words past the bound", BoundsOfWholeTest::small, x -> x.isAlike(0, 2, 0, 3, 0));
        Edge.refused(Due.STATE, "refusals past the bound", BoundsOfWholeTest::small, x -> x.isAlike(1, 2, 0, 3, 0));
        Edge.allowed(true, "alike by the look above", BoundsOfWholeTest::small, x -> x.isAlike(2, 2, 0, 3, 0));
        Edge.refused(Due.STATE, "a sentence of 410 signs", BoundsOfWholeTest::small,
                x -> x.sentence(0, 0, 1, 0, false));
        Edge.allowed(true, "isSound stays when it is asked", BoundsOfWholeTest::small,
                x -> x.isSound() && x.isSound() && x.ofGraph(0, 0) == small().ofGraph(0, 0));
    }

    private static Twotalk rows(String... terms) {
        Twotalk x = new Twotalk();
        for (int n = 0; n < terms.length; n++) {
            Due.graph(x, n, terms[n]);
        }
        return x;
    }

    /** "d becomes d * 31 + v, which wraps around as a 64-bit integer": reckoned with numbers that do not wrap around */
    private static void digestWrapsAround() {
        Edge.House trials = () -> rows("0", "a.0", "A.d.0", "(A.t.d.0+t.0)");
        Edge.House[] all = {Twotalk::new, () -> Due.house("3=a.(X3|0)", "7=X7"), trials,
            BoundsOfWholeTest::unlikeByEachLook, BoundsOfWholeTest::full, BoundsOfWholeTest::small,
            example(0), example(1), example(2), example(3), example(4)};
        boolean isBelowZero = false;
        for (int i = 0; i < all.length; i++) {
            BigInteger whole = wholeDigest(all[i]);
            isBelowZero = isBelowZero || whole.longValue() < 0;
            Due.is(true, "the digest goes beyond 64 bits", () -> whole.bitLength() > 64);
            Edge.allowed(whole.longValue(), "the digest of the house " + i, all[i], Twotalk::digest);
            Edge.allowed(whole.longValue(), "the digest, again", all[i], x -> x.digest() == 0 ? 0 : x.digest());
        }
        boolean isSeen = isBelowZero;
        Due.is(true, "one of them has come to be below zero", () -> isSeen);
    }

    /** The state 14 of the graph 1 is alike with its state 1 by the look 2 alone; t parts by the look 4 alone. */
    private static Twotalk unlikeByEachLook() {
        Twotalk x = Due.house("0=(a.0+(t.b.0+b.0))");
        Due.graph(x, 1, "(a.(a.0+t.b.0)+" + "b.".repeat(11) + "X0)");
        Due.graph(x, 2, "t.".repeat(14) + "a.0");
        return x;
    }

    /** "how many signs classes() of 2 to 4 have": another number by each */
    private static void signsOfClasses() {
        int[][] due = {{33, 32}, {34, 32}, {34, 37}};
        for (int look = 2; look <= 4; look++) {
            int asked = look;
            for (int n = 1; n <= 2; n++) {
                int graph = n;
                Edge.allowed(due[look - 2][n - 1], "signs of classes(" + n + ", " + look + ")",
                        BoundsOfWholeTest::unlikeByEachLook, x -> x.classes(graph, asked).length());
            }
        }
    }

    private static Edge.House example(int k) {
        return () -> {
            Twotalk x = new Twotalk();
            x.example(k);
            return x;
        };
    }

    private static BigInteger with(BigInteger d, long v) {
        return d.multiply(BigInteger.valueOf(31)).add(BigInteger.valueOf(v));
    }

    /** Asked of a new house for each part, so that none is used for too many calls. */
    private static BigInteger wholeDigest(Edge.House house) {
        Twotalk x = house.made();
        BigInteger d = BigInteger.valueOf(6810);
        for (int what = 0; what <= 9; what++) {
            d = with(d, x.house(what));
        }
        for (int n = 0; n < 4; n++) {
            d = graphDigest(d, house.made(), n);
        }
        for (int k = 0; k < 8; k++) {
            d = with(d, x.meant(k).length());
        }
        for (int n = 0; n < 4; n++) {
            for (int m = n + 1; m < 4; m++) {
                for (int look = 2; look <= 4; look++) {
                    d = with(d, x.isAlike(look, n, 0, m, 0) ? 1 : 0);
                }
                d = with(d, x.may(n, m) ? 1 : 0);
                d = with(d, x.must(n, m) ? 1 : 0);
            }
        }
        return with(d, x.isSound() ? 1 : 0);
    }

    private static BigInteger graphDigest(BigInteger start, Twotalk x, int n) {
        BigInteger d = start;
        for (int what = 0; what <= 5; what++) {
            d = with(d, x.ofGraph(n, what));
        }
        int count = x.ofGraph(n, 0);
        for (int p = 0; p < count; p++) {
            for (int what = 0; what <= 5; what++) {
                d = with(d, x.ofState(n, p, what));
            }
            d = with(d, x.steps(n, p).length());
            d = with(d, x.term(n, p).length());
        }
        for (int look = 2; look <= 4; look++) {
            d = with(d, x.classes(n, look).length());
        }
        return d;
    }

    /** The checksum of a house at its bounds is told by that of it as it is made anew, and by no other one. */
    private static void digestOfBounds() {
        Edge.allowed(full().digest(), "the digest of a full house made anew", BoundsOfWholeTest::full, Twotalk::digest);
        Edge.allowed(false, "the digest behind a knock", BoundsOfWholeTest::full,
                x -> x.knock() == 1 && x.digest() == full().digest());
        Edge.allowed(false, "the digest of one term less", BoundsOfWholeTest::full,
                x -> x.drop() == 7 && x.digest() == full().digest());
        Edge.allowed(false, "the digest of one sentence less", BoundsOfWholeTest::full,
                x -> x.unsay() == 5 && x.digest() == full().digest());
    }

    private static void refuse(Twotalk x, Class<? extends RuntimeException> want, Edge.Asked... calls) {
        for (int i = 0; i < calls.length; i++) {
            Edge.Asked call = calls[i];
            Due.is(want.getSimpleName(), "the call " + i + " to be refused by " + want.getSimpleName(), () -> {
                try {
                    return call.of(x);
                } catch (IndexOutOfBoundsException | IllegalStateException | IllegalArgumentException
                        | NoSuchElementException e) {
                    return e.getClass().getSimpleName();
                }
            });
        }
    }

    /** Each call of the face whose numbers are wrong, whatever else there is. */
    private static void wrongNumbers(Twotalk x) {
        refuse(x, Due.INDEX, y -> y.name(-1), y -> y.name(8), y -> y.step(-1), y -> y.step(9), y -> y.hide(-1),
                y -> y.hide(4), y -> y.rename(-1, 0), y -> y.rename(4, 0), y -> y.rename(0, -1), y -> y.rename(0, 4),
                y -> y.text(-1), y -> y.text(8), y -> y.tell(-1), y -> y.tell(8), y -> y.meant(-1), y -> y.meant(8),
                y -> y.isGuarded(-1), y -> y.isGuarded(8), y -> y.graph(-1), y -> y.graph(4), y -> y.example(-1),
                y -> y.example(5), y -> y.smallest(-1, 0), y -> y.smallest(4, 0), y -> y.smallest(0, -1),
                y -> y.smallest(0, 4), y -> y.ofGraph(-1, 0), y -> y.ofGraph(4, 9));
        refuse(x, Due.INDEX, y -> y.ofState(0, -1, 0), y -> y.ofState(0, 24, 9), y -> y.ofState(4, 0, 0),
                y -> y.steps(0, 24), y -> y.steps(4, 0), y -> y.term(0, 24), y -> y.term(-1, 0), y -> y.which(4, true),
                y -> y.which(-1, false), y -> y.isEverAgain(4, 0), y -> y.isEverAgain(0, 9), y -> y.isEverAgain(0, -1),
                y -> y.isAlike(9, 4, 0, 0, 0), y -> y.isAlike(0, 0, 0, 0, 24), y -> y.round(0, 24, 0, 0, true),
                y -> y.word(0, 0, 4, 0), y -> y.refusal(0, -1, 0, 0), y -> y.sentence(0, 0, 0, 24, true),
                y -> y.game(-1, 0, 0, 0), y -> y.classes(4, 9), y -> y.isTrue(4, 0), y -> y.isTrue(0, 24),
                y -> y.may(4, 0), y -> y.may(0, -1), y -> y.must(4, 0), y -> y.must(0, -1), y -> y.form(0, 24),
                y -> y.proof(4, 0), y -> y.say(3, 9), y -> y.say(4, -1), y -> y.say(5, 9));
        refuse(x, Due.ARGUMENT, y -> y.ofGraph(0, -1), y -> y.ofGraph(3, 6), y -> y.ofState(0, 0, 6),
                y -> y.ofState(3, 0, -1), y -> y.isAlike(5, 0, 0, 0, 0), y -> y.isAlike(-1, 3, 0, 0, 0),
                y -> y.classes(0, 1), y -> y.classes(3, 5), y -> y.say(6, 0), y -> y.say(-1, 9), y -> y.house(10),
                y -> y.house(-1));
    }

    private static void stays(String what, Edge.House house, Twotalk x) {
        Due.is(View.of(house.made()), what, () -> View.of(x));
    }

    /** "A method that throws an exception changes nothing" */
    private static void refusedAllInAFullHouse() {
        Twotalk x = full();
        wrongNumbers(x);
        refuse(x, Due.STATE, Twotalk::nil, y -> y.name(0), y -> y.step(0), Twotalk::either, Twotalk::beside,
                y -> y.hide(0), y -> y.rename(0, 0), y -> y.say(0, 0), y -> y.say(1, 0), y -> y.say(2, 0),
                y -> y.say(3, 0), y -> y.say(4, 0), y -> y.say(5, 0));
        refuse(x, Due.ARGUMENT, y -> y.graph(0), y -> y.form(0, 0), y -> y.proof(3, 23));
        refuse(x, Due.ELEMENT, y -> y.word(0, 0, 3, 23), y -> y.refusal(1, 5, 1, 5),
                y -> y.sentence(0, 0, 1, 0, false), y -> y.sentence(0, 0, 1, 0, true), y -> y.game(0, 23, 3, 0));
        stays("a full house", BoundsOfWholeTest::full, x);
    }

    private static void refusedAllInANewHouse() {
        Twotalk x = new Twotalk();
        wrongNumbers(x);
        refuse(x, Due.STATE, y -> y.step(0), Twotalk::either, Twotalk::beside, y -> y.hide(0), y -> y.rename(0, 0),
                Twotalk::drop, y -> y.tell(0), y -> y.graph(0), y -> y.say(1, 0), y -> y.say(2, 0), y -> y.say(3, 0),
                y -> y.say(4, 0), y -> y.say(5, 0));
        refuse(x, Due.INDEX, y -> y.text(0), y -> y.term(0, 1), y -> y.steps(3, 1));
        refuse(x, Due.ELEMENT, Twotalk::unsay, Twotalk::said, Twotalk::depth, y -> y.isTrue(0, 0),
                y -> y.word(0, 0, 3, 0), y -> y.refusal(1, 0, 1, 0), y -> y.sentence(0, 0, 1, 0, false),
                y -> y.sentence(0, 0, 1, 0, true), y -> y.game(0, 0, 3, 0));
        stays("a new house", Twotalk::new, x);
    }

    private static void refusedAllInASmallHouse() {
        Twotalk x = small();
        wrongNumbers(x);
        refuse(x, Due.STATE, Twotalk::either, Twotalk::beside, y -> y.say(2, 0), y -> y.isAlike(0, 2, 0, 3, 0),
                y -> y.isAlike(1, 3, 0, 2, 0), y -> y.word(2, 0, 3, 0), y -> y.refusal(2, 0, 3, 0),
                y -> y.sentence(0, 0, 1, 0, false), y -> y.sentence(1, 0, 0, 0, true), y -> y.form(0, 0),
                y -> y.proof(1, 0));
        refuse(x, Due.ARGUMENT, y -> y.graph(0), y -> y.graph(3), y -> y.form(3, 0), y -> y.proof(2, 0));
        refuse(x, Due.INDEX, y -> y.text(1), y -> y.term(3, 2), y -> y.isTrue(3, 2), y -> y.isAlike(7, 0, 0, 3, 2));
        stays("a small house", BoundsOfWholeTest::small, x);
    }
}
