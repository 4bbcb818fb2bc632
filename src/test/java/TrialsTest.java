import java.util.TreeSet;

/** Promises 35 to 38: tests of a graph by another one, forms and their proofs. */
public final class TrialsTest {
    private static final int[] NO_GRAPH = {-1, 4, Integer.MIN_VALUE, Integer.MAX_VALUE};

    public static void main(String[] args) {
        may();
        mayAndMust();
        mustOnALongWay();
        mayOnALongWay();
        wrongGraphs();
        form();
        formOfManyItems();
        formBound();
        proof();
        wrongStates();
        Due.end();
    }

    private static void may() {
        Twotalk x = new Twotalk();
        Due.is(false, "0 by 0", () -> x.may(0, 1));
        Due.is(false, "0 by 0", () -> x.must(0, 1));
        Due.graph(x, 1, "A.d.0");
        Due.graph(x, 2, "a.0");
        Due.is(true, "a.0 by A.d.0", () -> x.may(2, 1));
        Due.is(true, "a.0 by A.d.0", () -> x.must(2, 1));
        Due.is(false, "the other way round", () -> x.may(1, 2));
        Due.is(false, "0 by A.d.0", () -> x.may(0, 1));
        Due.is(false, "a graph by itself", () -> x.may(2, 2));
        Due.graph(x, 3, "d.0");
        Due.is(true, "a graph by itself, glad at once", () -> x.must(3, 3));
    }

    /** Whether MAY and whether MUST, of a process and a tester. */
    private static void trial(boolean may, boolean must, String tested, String tester, String... lines) {
        Twotalk x = Due.house(lines);
        Due.graph(x, 3, tested);
        Due.graph(x, 1, tester);
        Due.is(may, tested + " may pass " + tester, () -> x.may(3, 1));
        Due.is(must, tested + " must pass " + tester, () -> x.must(3, 1));
    }

    private static void mayAndMust() {
        trial(true, true, "0", "d.0");
        trial(false, false, "0", "D.0");
        trial(false, false, "d.0", "0");
        trial(true, true, "0", "t.d.0");
        trial(true, true, "t.0", "t.t.d.0");
        trial(true, false, "0", "(t.d.0+t.0)");
        trial(true, true, "0", "(t.0+d.0)");
        trial(true, true, "a.0", "A.d.0");
        trial(true, true, "A.0", "a.d.0");
        trial(false, false, "a.0", "a.d.0");
        trial(false, false, "a.0", "B.d.0");
        trial(true, true, "d.A.0", "D.a.d.0");
        trial(true, true, "D.0", "d.0");
        trial(true, false, "(a.0+t.0)", "A.d.0");
        trial(true, false, "(a.b.0+a.c.0)", "A.B.d.0");
        trial(true, true, "a.(b.0+c.0)", "A.B.d.0");
        trial(true, true, "(a.b.0+a.c.0)", "A.(B.d.0+C.d.0)");
        trial(true, true, "(a.b.0+a.c.0)", "A.(B.d.0+t.d.0)");
        trial(true, true, "(a.0+b.0)", "A.d.0");
        trial(true, false, "(a.0+b.0)", "(A.d.0+B.0)");
        trial(true, false, "X0", "A.d.0", "0=(t.X0+a.0)");
        trial(true, false, "X0", "t.d.0", "0=t.X0");
        trial(false, false, "X0", "A.d.0", "0=t.X0");
        trial(true, true, "X0", "(d.0+A.0)", "0=t.X0");
        trial(true, false, "a.0", "X1", "1=(A.d.0+t.X1)");
        trial(false, false, "X0", "X1", "0=a.X0", "1=A.X1");
        trial(true, false, "X0", "X1", "0=(a.X0+b.0)", "1=(A.X1+B.d.0)");
        trial(true, true, "X0", "A.A.A.(d.0+t.0)", "0=a.X0");
        trial(true, false, "X0", "A.A.A.(t.d.0+t.0)", "0=a.X0");
        trial(true, true, "((a.0|A.b.0)-a)", "B.d.0");
        trial(true, true, "(t.a.0+t.(a.0+b.0))", "A.d.0");
        trial(true, true, "0", "(t.X0+t.t.X0)", "0=d.X0");
        trial(true, false, "0", "(t.X0+t.t.X0)", "0=(t.X0+t.d.X0)");
        Twotalk x = new Twotalk();
        x.example(0);
        Due.graph(x, 2, "A.A.c.d.0");
        Due.graph(x, 3, "A.A.b.b.d.0");
        Due.is(false, "two places do not offer c", () -> x.may(0, 2));
        Due.is(true, "two places hold two", () -> x.must(0, 3));
        Due.is(true, "two places hold two", () -> x.must(1, 3));
        Due.graph(x, 3, "A.A.(A.d.0+b.0)");
        Due.is(false, "two places never hold three", () -> x.may(0, 3));
    }

    /** One goes round after 23 acts, the other one after six; they stand at their last acts first after 138. */
    private static void mustOnALongWay() {
        String tested = "0=" + "a.".repeat(22) + "b.X0";
        String[] ends = {"(A.X2+B.d.0)", "(A.X2+(B.d.0+B.0))", "(A.X2+B.0)", "(A.X2+B.t.t.d.0)", "A.X2"};
        boolean[] may = {true, true, false, true, false};
        boolean[] must = {true, false, false, true, false};
        for (int i = 0; i < ends.length; i++) {
            trial(may[i], must[i], "X0", "X2", tested, "2=(A.X3+B.X3)", "3=(A.X4+B.X4)", "4=(A.X5+B.X5)",
                    "5=(A.X6+B.X6)", "6=(A.X7+B.X7)", "7=" + ends[i]);
        }
    }

    /** One goes round after 11 acts, by states of falling numbers, the other one after ten, or after 11, too. */
    private static void mayOnALongWay() {
        String[] rows = new String[12];
        for (int k = 1; k <= 11; k++) {
            rows[k] = "a.".repeat(k) + "X0";
        }
        String[] lines = {"0=((X1+X2)+((X3+X4)+(" + rows[11] + "+b.0)))",
            "1=((c." + rows[1] + "+c." + rows[2] + ")+(c." + rows[3] + "+c." + rows[4] + "))",
            "2=(c." + rows[5] + "+c." + rows[6] + ")", "3=(c." + rows[7] + "+c." + rows[8] + ")",
            "4=(c." + rows[9] + "+c." + rows[10] + ")", "5=" + "A.".repeat(9) + "(A.X5+B.d.0)",
            "6=" + "A.".repeat(10) + "(A.X6+B.d.0)"};
        Twotalk x = Due.house(lines);
        Due.graph(x, 3, "X0");
        Due.is("a1 b2 c1 c3 c4 c5 c6 c7 c8 c9 c10 c11", "steps", () -> x.steps(3, 0));
        Due.is("a11, a0, a10", "its way back", () -> x.steps(3, 1) + ", " + x.steps(3, 3) + ", " + x.steps(3, 11));
        trial(true, false, "X0", "X5", lines);
        trial(false, false, "X0", "X6", lines);
    }

    private static void wrongGraphs() {
        Twotalk x = new Twotalk();
        for (int n : NO_GRAPH) {
            Due.fails(Due.INDEX, x, "may of " + n, () -> x.may(n, 0));
            Due.fails(Due.INDEX, x, "may by " + n, () -> x.may(0, n));
            Due.fails(Due.INDEX, x, "must of " + n, () -> x.must(n, 0));
            Due.fails(Due.INDEX, x, "must by " + n, () -> x.must(0, n));
        }
    }

    private static void forms(String form, String proof, String term, String... lines) {
        Twotalk x = Due.house(lines);
        Due.graph(x, 1, term);
        Due.is(form, "form of " + term, () -> x.form(1, 0));
        Due.is(proof, "proof of " + term, () -> x.proof(1, 0));
    }

    private static void form() {
        forms("0", "0=0", "0");
        forms("0", "0=0", "(a.0-a)");
        forms("a.0", "1=0;0=a1", "a.0");
        forms("a.0+b.0", "1=0;0=a1+b1", "(b.0+a.0)");
        forms("a.0", "1=0;0=a1", "(a.0+a.(0|0))");
        forms("A.0+B.0+a.0+b.0+t.0", "1=0;0=A1+B1+a1+b1+t1", "((t.0+b.0)+(a.0+(B.0+A.0)))");
        forms("a.(b.0+c.0)", "2=0;1=b2+c2;0=a1", "a.(b.0+c.0)");
        forms("a.b.0+a.c.0", "3=0;1=b3;2=c3;0=a1+a2", "(a.b.0+a.c.0)");
        forms("a.b.0+b.a.0", "3=0;1=b3;2=a3;0=a1+b2", "(a.0|b.0)");
        forms("A.a.0+a.A.0+t.0", "1=0;2=A1;3=a1;0=A3+a2+t1", "(a.0|A.0)");
        forms("a.a.0", "3=0;1=a3;0=a1", "(a.0|a.0)");
        forms("a.(a.0+b.0)+a.0+a.b.0", "2=0;1=a2+b2;3=b2;0=a1+a2+a3", "((a.b.0+a.(a.0+b.0))+a.0)");
        forms("a.c.(t.0+t.t.0)", "3=0;4=t3;2=t3+t4;1=c2;0=a1", "a.X1", "1=c.(t.t.0+(t.0+t.0))");
        Twotalk x = Due.house("0=a.X0");
        Due.graph(x, 2, "(b.c.0+t.0)");
        Due.is("c.0", "form of a later state", () -> x.form(2, 2));
        Due.is("1=0;2=c1", "proof of a later state", () -> x.proof(2, 2));
        Due.graph(x, 2, "(b.X0+c.d.0)");
        Due.fails(Due.ARGUMENT, x, "a row from it goes on for ever", () -> x.form(2, 0));
        Due.fails(Due.ARGUMENT, x, "a row from it goes on for ever", () -> x.form(2, 1));
        Due.fails(Due.ARGUMENT, x, "a row from it goes on for ever", () -> x.proof(2, 0));
        Due.is("d.0", "no row from that one does", () -> x.form(2, 2));
        Due.is("3=0;2=d3", "no row from that one does", () -> x.proof(2, 2));
    }

    /** As many items as may stand in 200 signs: each act ahead of each of the four shortest forms. */
    private static void formOfManyItems() {
        String[] behind = {"0", "a.0", "b.0", "c.0"};
        TreeSet<String> items = new TreeSet<>();
        StringBuilder proof = new StringBuilder("1=0;2=a1;3=b1;4=c1;0=");
        for (char act : "ABCDabcdt".toCharArray()) {
            for (int i = 0; i < behind.length; i++) {
                items.add(act + "." + behind[i]);
                proof.append(proof.length() > 22 ? "+" : "").append(act).append(i + 1);
            }
        }
        String[] lines = {"0=" + allOn("0"), "1=" + allOn("X5"), "2=" + allOn("X6"), "3=" + allOn("X7"),
            "4=((t.0+t.X5)+(t.X6+t.X7))", "5=a.0", "6=b.0", "7=c.0"};
        String form = String.join("+", items);
        Due.is(197, "its length", form::length);
        forms(form, proof.toString(), "((X4+X4)+((X3+X2)+(X1+X0)))", lines);
    }

    private static String allOn(String to) {
        String text = "(((a.@+b.@)+(c.@+d.@))+((A.@+B.@)+(C.@+D.@)))";
        return text.replace("@", to);
    }

    /** A form of the length 7 for each name, and one that is twice as long on each floor above. */
    private static void formBound() {
        String[] lines = {"0=(a.0+b.0)", "1=(a.X0+b.X0)", "2=(a.X1+b.X1)", "3=(a.X2+b.X2)", "4=(a.X3+b.X3)"};
        Twotalk x = Due.house(lines);
        int[] due = {7, 23, 55, 119};
        for (int k = 0; k < 4; k++) {
            int length = due[k];
            Due.graph(x, 0, "X" + k);
            Due.is(length, "the form of X" + k, () -> x.form(0, 0).length());
        }
        Due.graph(x, 0, "X4");
        Due.fails(Due.STATE, x, "a form of 247 signs", () -> x.form(0, 0));
        Due.fails(Due.STATE, x, "a proof for a form of 247 signs", () -> x.proof(0, 0));
        Due.is(119, "a later one is shorter", () -> x.form(0, 1).length());
        Due.graph(x, 0, "((((a.X4-a)|0)-b)|0)");
        Due.is("0", "what is hidden does not count", () -> x.form(0, 0));
        exactBound();
    }

    /** All forms have an odd number of signs, so that 199 and 201 are the ones next to the bound. */
    private static void exactBound() {
        Twotalk x = Due.house("0=(a.0+b.0)", "1=(a.X0+b.X0)", "2=(a.X1+b.X1)", "3=(a.X2+b.X2)");
        Due.graph(x, 0, "(c.c.c.c.X2+c.X3)");
        Due.is(8 + 2 + 55 + 1 + 4 + 119, "first sum", () -> x.form(0, 0).length());
        Due.graph(x, 0, "((c.c.c.c.X2+c.X3)+d.d.d.d.0)");
        Due.is(199, "199 signs", () -> x.form(0, 0).length());
        Due.is(false, "its proof", () -> x.proof(0, 0).isEmpty());
        Due.graph(x, 0, "((c.c.c.c.X2+c.X3)+d.d.d.d.d.0)");
        Due.fails(Due.STATE, x, "201 signs", () -> x.form(0, 0));
        Due.fails(Due.STATE, x, "201 signs", () -> x.proof(0, 0));
        Due.told(x, "4=((c.c.c.c.X2+c.X3)+d.d.d.d.d.0)");
        Due.graph(x, 0, "a.X4");
        Due.fails(Due.STATE, x, "201 signs of one that it comes to", () -> x.form(0, 0));
    }

    private static void proof() {
        forms("a.(b.0+c.0)+b.0+t.(b.0+c.0)", "3=0;1=b3+c3;0=a1+b3+t1", "((t.X0+a.(X0|0))+b.0)", "0=(b.0+c.0)");
        forms("a.b.0+c.b.0", "3=0;1=b3;0=a1+c1", "(c.(0|b.0)+a.b.0)");
        forms("a.b.0", "3=0;1=b3;0=a1", "(a.(0|b.0)+a.b.0)");
        forms("a.(a.0+b.0)+b.a.0", "3=0;1=a3+b3;2=a3;0=a1+b2", "(a.(a.0+b.0)+b.a.0)");
        forms("a.a.0+b.(a.0+b.0)", "3=0;1=a3;2=a3+b3;0=a1+b2", "(b.(a.0+b.0)+a.a.0)");
        Twotalk x = new Twotalk();
        Due.graph(x, 0, "a.b.c.d.A.B.C.D.a.b.c.(a.0+b.c.0)");
        Due.is("12=0;13=c12;11=a12+b13;10=c11;9=b10;8=a9;7=D8;6=C7;5=B6;4=A5;3=d4;2=c3;1=b2;0=a1",
                "a long one", () -> x.proof(0, 0));
        Due.is("12=0", "proof of the last one", () -> x.proof(0, 12));
        Twotalk y = Due.house("0=(((a.a.0+a.b.0)+(a.c.0+a.d.0))+(a.A.0+a.B.0))",
                "1=((a.C.0+a.D.0)+(a.t.0+(a.a.a.0+a.a.b.0)))");
        Due.graph(y, 0, "(X0+X1)");
        Due.is("a1 a2 a3 a4 a5 a6 a7 a8 a9 a10 a11", "its steps", () -> y.steps(0, 0));
        Due.is("12=0;1=A12;2=B12;3=C12;4=D12;5=a12;8=b12;9=c12;10=d12;11=t12;6=a5;7=a8;"
                + "0=a1+a10+a11+a2+a3+a4+a5+a6+a7+a8+a9", "numbers are sorted as texts", () -> y.proof(0, 0));
    }

    private interface Asked {
        Object of(int n, int p);
    }

    private static void wrongStates() {
        Twotalk x = Due.house("0=a.X0");
        Due.graph(x, 2, "X0");
        for (Asked asked : new Asked[] {x::form, x::proof}) {
            for (int n : NO_GRAPH) {
                Due.fails(Due.INDEX, x, "of the graph " + n, () -> asked.of(n, 0));
            }
            for (int p : new int[] {-1, 1, 24, Integer.MIN_VALUE, Integer.MAX_VALUE}) {
                Due.fails(Due.INDEX, x, "of the state " + p, () -> asked.of(2, p));
            }
        }
    }
}
