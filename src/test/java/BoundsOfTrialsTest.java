/** The bounds that section 5 (tests and forms) and the promises 35 to 38 name, sentence by sentence. */
public final class BoundsOfTrialsTest {
    private static final String STEPS_24 = "a.a.a.a.a.a.a.a.a.a.a.a.a.a.a.a.a.a.a.a.a.a.a.0";
    /** Forms of 7, 23, 55 and 119 signs, and one of 247. */
    private static final String[] DOUBLED = {"0=(a.0+b.0)", "1=(a.X0+b.X0)", "2=(a.X1+b.X1)", "3=(a.X2+b.X2)",
        "4=(a.X3+b.X3)"};
    private static final String SIGNS_199 = "((c.c.c.c.X2+c.X3)+d.d.d.d.0)";
    private static final String SIGNS_201 = "((c.c.c.c.X2+c.X3)+d.d.d.d.d.0)";

    public static void main(String[] args) {
        mayAndMustNumbers();
        trialOfNil();
        firstPairCounts();
        gladByAStepOfTheTester();
        mayOfTheLastPair();
        mustGoOnForEver();
        mustAsLongAsItCan();
        formAndProofNumbers();
        formIfForEver();
        formUpTo200();
        formOfOneThatItComesTo();
        formForEverFirst();
        formOfNone();
        formInBrackets();
        formOf24();
        proofOfTheSameForms();
        proofOf24();
        Due.end();
    }

    private static Edge.House of(String term, String... lines) {
        return () -> {
            Twotalk x = Due.house(lines);
            Due.graph(x, 1, term);
            Due.graph(x, 3, "(a.d.0+t.0)");
            Due.say(x, "T");
            x.nil();
            return x;
        };
    }

    /** A process, the graph 1, and a tester, the graph 2. */
    private static Edge.House trial(String tested, String tester, String... lines) {
        return () -> {
            Twotalk x = of(tested, lines).made();
            Due.graph(x, 2, tester);
            return x;
        };
    }

    private static void trial(boolean may, boolean must, String tested, String tester, String... lines) {
        String what = tested + " by " + tester;
        Edge.allowed(may, "may, " + what, trial(tested, tester, lines), x -> x.may(1, 2));
        Edge.allowed(must, "must, " + what, trial(tested, tester, lines), x -> x.must(1, 2));
    }

    /** "Throws IndexOutOfBoundsException if n or m is not 0 to 3" (may, must) */
    private static void mayAndMustNumbers() {
        Edge.House house = trial("a.0", "A.d.0");
        Edge.range(Due.INDEX, 0, 3, "may, n", house, (x, n) -> x.may(n, 2));
        Edge.range(Due.INDEX, 0, 3, "may, m", house, (x, m) -> x.may(1, m));
        Edge.range(Due.INDEX, 0, 3, "may, both", house, (x, both) -> x.may(both, both));
        Edge.range(Due.INDEX, 0, 3, "must, n", house, (x, n) -> x.must(n, 2));
        Edge.range(Due.INDEX, 0, 3, "must, m", house, (x, m) -> x.must(1, m));
        Edge.range(Due.INDEX, 0, 3, "must, both", house, (x, both) -> x.must(both, both));
    }

    private static void trialOfNil() {
        Edge.allowed(false, "may of nil by itself", Twotalk::new, x -> x.may(0, 0));
        Edge.allowed(false, "must of nil by itself", Twotalk::new, x -> x.must(0, 0));
        trial(false, false, "0", "0");
        trial(true, true, "0", "d.0");
    }

    /** "(the first one counts, too)" */
    private static void firstPairCounts() {
        trial(true, true, "0", "(d.0+t.0)");
        trial(true, true, "X0", "(d.0+t.X1)", "0=t.X0", "1=t.X1");
        trial(true, true, "a.0", "(A.0+d.0)");
        trial(true, false, "0", "(t.d.0+t.0)");
        Edge.allowed(true, "a graph that is glad of itself", trial("d.0", "0"), x -> x.must(1, 1));
    }

    /** "if the tester's STATE has a STEP by d": by d alone, of the tester alone, a step and no weak one */
    private static void gladByAStepOfTheTester() {
        trial(false, false, "0", "D.0");
        trial(false, false, "0", "c.0");
        trial(false, false, "d.0", "0");
        trial(false, false, "d.0", "D.0");
        trial(true, false, "X0", "t.d.0", "0=t.X0");
        trial(true, true, "0", "t.t.d.0");
        trial(true, true, "D.0", "d.0");
    }

    /** "one can come to a GLAD pair": the last of 24 by 24 */
    private static void mayOfTheLastPair() {
        String offers = STEPS_24.replace("a", "A");
        trial(true, true, STEPS_24, offers.replace("A.0", "d.0"));
        trial(true, true, STEPS_24, offers.replace("0", "X0"), "0=d.X0");
        trial(false, false, STEPS_24.substring(2), offers.replace("0", "X0"), "0=d.X0");
        trial(true, true, STEPS_24.replace("a", "t"), offers.replace("A", "t").replace("t.0", "d.0"));
        trial(false, false, STEPS_24.replace("a", "t"), offers.replace("A", "t"));
    }

    /** "each row of such steps that goes on for ever .. comes to a GLAD pair" */
    private static void mustGoOnForEver() {
        trial(true, false, "0", "X0", "0=(t.X0+t.d.0)");
        trial(true, false, "X0", "X1", "0=(a.X0+b.0)", "1=(A.X1+B.d.0)");
        trial(true, true, "X0", "X1", "0=a.X0", "1=A.X2", "2=(d.X1+A.X1)");
        trial(true, false, "X0", STEPS_24.replace("a", "t").replace("t.0", "d.0"), "0=t.X0");
        trial(true, true, "0", STEPS_24.replace("a", "t").replace("t.0", "d.0"));
    }

    /** "or as long as it can" */
    private static void mustAsLongAsItCan() {
        trial(false, false, "a.0", "a.d.0");
        trial(true, true, "a.0", "A.d.0");
        trial(true, false, "(a.0+t.0)", "A.d.0");
        trial(true, true, "(a.0+t.a.0)", "A.d.0");
        trial(true, false, "a.0", "(A.d.0+A.0)");
        trial(true, true, "a.0", "(A.d.0+A.t.d.0)");
    }

    /** "Throws IndexOutOfBoundsException if n is not 0 to 3, or there is no such STATE" (form, proof), first of all */
    private static void formAndProofNumbers() {
        Edge.House forEver = of("X0", "0=(a.X0+b.0)");
        Edge.House long201 = of(SIGNS_201, DOUBLED);
        Edge.AskedBy[] graphs = {(x, n) -> x.form(n, 0), (x, n) -> x.proof(n, 0)};
        Edge.AskedBy[] states = {(x, p) -> x.form(1, p), (x, p) -> x.proof(1, p)};
        int last = long201.made().ofGraph(1, 0) - 1;
        for (int i = 0; i < 2; i++) {
            String what = i == 0 ? "form" : "proof";
            Edge.range(Due.INDEX, 0, 3, what + " of the graph", of("a.b.0"), graphs[i]);
            Edge.range(Due.INDEX, 0, 2, what + " of three", of("a.b.0"), states[i]);
            Edge.range(Due.INDEX, 0, 23, what + " of 24", of(STEPS_24), states[i]);
            Edge.outside(Due.INDEX, 0, 1, what + " of two, for ever", forEver, states[i]);
            Edge.outside(Due.INDEX, 0, last, what + " past the bound", long201, states[i]);
            Edge.outside(Due.INDEX, 0, 3, what + " past the bound, the graph", long201, graphs[i]);
        }
    }

    private static void refusedBoth(Class<? extends RuntimeException> want, String what, Edge.House house, int p) {
        Edge.refused(want, "form, " + what, house, x -> x.form(1, p));
        Edge.refused(want, "proof, " + what, house, x -> x.proof(1, p));
    }

    private static void both(String form, String proof, Edge.House house, int p) {
        Edge.allowed(form, "form of the state " + p + ", " + form, house, x -> x.form(1, p));
        Edge.allowed(proof, "proof of the state " + p + ", " + proof, house, x -> x.proof(1, p));
    }

    /** "Throws IllegalArgumentException if a row of STEPS from it goes on for ever" */
    private static void formIfForEver() {
        refusedBoth(Due.ARGUMENT, "one that comes to itself", of("X0", "0=a.X0"), 0);
        refusedBoth(Due.ARGUMENT, "one that comes to itself by t", of("X0", "0=(t.X0+b.0)"), 0);
        refusedBoth(Due.ARGUMENT, "one that comes to such a one", of("b.X0", "0=a.X0"), 0);
        refusedBoth(Due.ARGUMENT, "of 24, the last one", of(STEPS_24.replace("0", "X0"), "0=a.X0"), 0);
        refusedBoth(Due.ARGUMENT, "of 24, the last one", of(STEPS_24.replace("0", "X0"), "0=a.X0"), 23);
        Edge.House mixed = of("(b.X0+c.d.0)", "0=a.X0");
        refusedBoth(Due.ARGUMENT, "one of its rows", mixed, 0);
        refusedBoth(Due.ARGUMENT, "its only row", mixed, 1);
        both("d.0", "3=0;2=d3", mixed, 2);
        both("0", "3=0", mixed, 3);
        both("a.0", "1=0;0=a1", of("(a.0|(b.X0-b))", "0=X0"), 0);
    }

    /** "BOUND of a FORM: 200 signs" (all forms have an odd number of them) "if the BOUND of a FORM is not kept" */
    private static void formUpTo200() {
        Edge.allowed(199, "199 signs", of(SIGNS_199, DOUBLED), x -> x.form(1, 0).length());
        Edge.allowed("d.d.d.d.0", "the last of 199 signs", of(SIGNS_199, DOUBLED), x -> x.form(1, 0).substring(190));
        Edge.allowed(true, "proof of 199 signs", of(SIGNS_199, DOUBLED),
                x -> x.proof(1, 0).matches("\\d+=0;(\\d+=[a-d]\\d+(\\+[a-d]\\d+)*;)*0=c\\d+\\+c\\d+\\+d\\d+"));
        refusedBoth(Due.STATE, "201 signs", of(SIGNS_201, DOUBLED), 0);
        refusedBoth(Due.STATE, "201 signs by one more step", of("((c.c.c.c.X2+c.X3)+(d.d.d.0+b.0))", DOUBLED), 0);
        Edge.allowed(197, "197 signs", of("((c.c.c.c.X2+c.X3)+d.d.d.0)", DOUBLED), x -> x.form(1, 0).length());
        refusedBoth(Due.STATE, "247 signs", of("X4", DOUBLED), 0);
        Edge.allowed(119, "119 signs behind it", of("X4", DOUBLED), x -> x.form(1, 1).length());
    }

    /** "by that of it or of one that it comes to" */
    private static void formOfOneThatItComesTo() {
        String[] lines = {DOUBLED[0], DOUBLED[1], DOUBLED[2], DOUBLED[3], "5=" + SIGNS_201, "6=" + SIGNS_199};
        refusedBoth(Due.STATE, "201 signs behind one step", of("a.X5", lines), 0);
        refusedBoth(Due.STATE, "201 signs behind two steps, of many", of("(a.b.X5+c.0)", lines), 0);
        refusedBoth(Due.STATE, "199 signs, and two more for the step", of("a.X6", lines), 0);
        Edge.allowed(199, "199 signs behind one step", of("a.X6", lines), x -> x.form(1, 1).length());
        Edge.allowed("b.0", "of one that does not come there", of("(a.X5+c.b.0)", lines), x -> x.form(1, 2));
        Edge.allowed("0", "of one that can't come there", of("(a.X5-a)", lines), x -> x.form(1, 0));
    }

    /** "if several apply, the one that is named first is thrown" */
    private static void formForEverFirst() {
        String[] lines = {DOUBLED[0], DOUBLED[1], DOUBLED[2], DOUBLED[3], DOUBLED[4], "5=(t.X5+a.X4)", "6=D.X6"};
        refusedBoth(Due.ARGUMENT, "for ever, and 247 signs behind it", of("X5", lines), 0);
        refusedBoth(Due.ARGUMENT, "for ever behind one step, 247 signs behind another", of("(a.X4+b.X6)", lines), 0);
        refusedBoth(Due.ARGUMENT, "247 signs behind one step, for ever behind another", of("(b.X6+a.X4)", lines), 0);
        refusedBoth(Due.STATE, "247 signs alone", of("(a.X4+b.X6)", lines), 1);
        refusedBoth(Due.ARGUMENT, "for ever alone", of("(a.X4+b.X6)", lines), 2);
    }

    /** "\"0\" without any" */
    private static void formOfNone() {
        both("0", "0=0", of("0"), 0);
        both("0", "1=0", of("((a.0|b.0)-a)"), 1);
        both("0", "1=0", of("a.0"), 1);
        both("0", "23=0", of(STEPS_24), 23);
        both("0", "0=0", of("(((a.0-a)|0)|X0)", "0=((A.0-a):bb)"), 0);
    }

    /** "(in brackets, if that has a \"+\" outside of brackets)" "like ones once" */
    private static void formInBrackets() {
        both("a.0", "1=0;0=a1", of("a.0"), 0);
        both("a.b.0", "2=0;1=b2;0=a1", of("a.b.0"), 0);
        both("a.(b.0+c.0)", "2=0;1=b2+c2;0=a1", of("a.(b.0+c.0)"), 0);
        both("a.b.(b.0+c.0)", "3=0;2=b3+c3;1=b2;0=a1", of("a.b.(b.0+c.0)"), 0);
        both("a.b.0", "2=0;1=b2;0=a1", of("a.(b.0+b.0)"), 0);
        both("a.0", "1=0;0=a1", of("(a.0+a.(0+0))"), 0);
    }

    private static void formOf24() {
        both(STEPS_24, proofOfRow(24), of(STEPS_24), 0);
        Edge.allowed(47, "a row of 24", of(STEPS_24), x -> x.form(1, 0).length());
    }

    private static String proofOfRow(int states) {
        StringBuilder proof = new StringBuilder().append(states - 1).append("=0");
        for (int p = states - 2; p >= 0; p--) {
            proof.append(';').append(p).append("=a").append(p + 1);
        }
        return proof.toString();
    }

    /** "but for those whose FORM is that of one ahead of it" "(or of that ahead of it with the same FORM)" */
    private static void proofOfTheSameForms() {
        both("a.0", "1=0;0=a1", of("(a.0+a.(0|0))"), 0);
        both("a.b.0+c.b.0", "3=0;1=b3;0=a1+c1", of("(c.(0|b.0)+a.b.0)"), 0);
        both("0", "2=0", of("(a.0+a.(0|0))"), 2);
        both("b.0", "4=0;2=b4", of("(c.(0|b.0)+a.b.0)"), 2);
        both("b.0", "3=0;1=b3", of("(c.(0|b.0)+a.b.0)"), 1);
    }

    /** "a line for each STATE that it can come to, and for itself": no bound is named for it but that of forms */
    private static void proofOf24() {
        both(STEPS_24.substring(2), proofOfRow(24).substring(0, proofOfRow(24).lastIndexOf(';')), of(STEPS_24), 1);
        Edge.allowed(24, "lines of 24", of(STEPS_24), x -> x.proof(1, 0).split(";").length);
    }
}
