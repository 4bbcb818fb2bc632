/** Promises 1 to 13: the stack, its terms, and the names. */
public final class TermsTest {
    private static final int[] BELOW_AND_ABOVE = {-1, Integer.MIN_VALUE, Integer.MAX_VALUE};

    public static void main(String[] args) {
        newObject();
        nil();
        name();
        step();
        either();
        beside();
        hide();
        rename();
        drop();
        text();
        tell();
        meant();
        isGuarded();
        isGuardedByWayOfEach();
        Due.end();
    }

    private static void newObject() {
        Twotalk x = new Twotalk();
        for (int what = 0; what <= 9; what++) {
            int[] due = {0, 0, 0, 4, 0, 0, 0, 6, 6, 6};
            int asked = what;
            Due.is(due[what], "house(" + what + ") of a new one", () -> x.house(asked));
        }
        for (int n = 0; n < 4; n++) {
            int graph = n;
            Due.is("0", "term at first", () -> x.term(graph, 0));
            Due.is("", "steps at first", () -> x.steps(graph, 0));
        }
        Due.is("", "meant at first", () -> x.meant(0));
        new Twotalk().nil();
        Due.is(0, "a house has nothing of another one", () -> x.house(0));
    }

    private static Twotalk full() {
        Twotalk x = new Twotalk();
        for (int i = 1; i <= 8; i++) {
            int due = i;
            Due.is(due, "nil", x::nil);
        }
        return x;
    }

    private static void nil() {
        Twotalk x = full();
        Due.is("0", "the top", () -> x.text(0));
        Due.fails(Due.STATE, x, "a ninth nil", x::nil);
        x.drop();
        Due.is(8, "nil, as there is room again", x::nil);
    }

    private static void name() {
        Twotalk x = new Twotalk();
        for (int k = 0; k < 8; k++) {
            int name = k;
            Due.is(k + 1, "name", () -> x.name(name));
            Due.is("X" + k, "the name's text", () -> x.text(0));
        }
        Due.fails(Due.STATE, x, "a ninth name", () -> x.name(0));
        Due.fails(Due.INDEX, x, "name(8) on a full stack", () -> x.name(8));
        x.drop();
        for (int k : BELOW_AND_ABOVE) {
            Due.fails(Due.INDEX, x, "name(" + k + ")", () -> x.name(k));
        }
    }

    private static void step() {
        Twotalk x = new Twotalk();
        Due.fails(Due.STATE, x, "step without a top", () -> x.step(0));
        Due.fails(Due.INDEX, x, "step(9) without a top", () -> x.step(9));
        x.nil();
        for (int act = 0; act < 9; act++) {
            int asked = act;
            Due.is(act + 2, "step", () -> x.step(asked));
        }
        Due.is("D.C.B.A.d.c.b.a.t.0", "all acts", () -> x.text(0));
        for (int size = 11; size <= 24; size++) {
            Due.is(size, "step", () -> x.step(1));
        }
        Due.fails(Due.STATE, x, "step to a size of 25", () -> x.step(1));
        Due.fails(Due.INDEX, x, "step(9)", () -> x.step(9));
        for (int act : BELOW_AND_ABOVE) {
            Due.fails(Due.INDEX, x, "step(" + act + ")", () -> x.step(act));
        }
    }

    private static void either() {
        Twotalk x = new Twotalk();
        Due.fails(Due.STATE, x, "either of none", x::either);
        x.nil();
        Due.fails(Due.STATE, x, "either of one", x::either);
        Due.put(x, "a.0");
        Due.is(4, "either", x::either);
        Due.is("(0+a.0)", "the second stands first", () -> x.text(0));
        Due.is(1, "one is left", () -> x.house(0));
        sizes(x, true);
    }

    private static void beside() {
        Twotalk x = new Twotalk();
        Due.fails(Due.STATE, x, "beside of none", x::beside);
        x.name(3);
        Due.fails(Due.STATE, x, "beside of one", x::beside);
        Due.put(x, "A.0");
        Due.is(4, "beside", x::beside);
        Due.is("(X3|A.0)", "the second stands first", () -> x.text(0));
        Due.is(1, "one is left", () -> x.house(0));
        sizes(x, false);
    }

    /** A term of the size 4 is the top; with 19 more and the sign itself there are 24. */
    private static void sizes(Twotalk x, boolean isEither) {
        Due.put(x, "a.a.a.a.a.a.a.a.a.a.a.a.a.a.a.a.a.a.a.0");
        Due.fails(Due.STATE, x, "a pair of the size 25", isEither ? x::either : x::beside);
        x.drop();
        Due.put(x, "a.a.a.a.a.a.a.a.a.a.a.a.a.a.a.a.a.a.0");
        Due.is(24, "a pair of the size 24", isEither ? x::either : x::beside);
    }

    private static void hide() {
        Twotalk x = new Twotalk();
        Due.fails(Due.STATE, x, "hide without a top", () -> x.hide(0));
        Due.fails(Due.INDEX, x, "hide(4) without a top", () -> x.hide(4));
        x.nil();
        for (int channel = 0; channel < 4; channel++) {
            int asked = channel;
            Due.is(channel + 2, "hide", () -> x.hide(asked));
        }
        Due.is("((((0-a)-b)-c)-d)", "all channels", () -> x.text(0));
        for (int size = 6; size <= 24; size++) {
            Due.is(size, "hide", () -> x.hide(3));
        }
        Due.fails(Due.STATE, x, "hide to a size of 25", () -> x.hide(3));
        Due.fails(Due.INDEX, x, "hide(4)", () -> x.hide(4));
        for (int channel : BELOW_AND_ABOVE) {
            Due.fails(Due.INDEX, x, "hide(" + channel + ")", () -> x.hide(channel));
        }
    }

    private static void rename() {
        Twotalk x = new Twotalk();
        Due.fails(Due.STATE, x, "rename without a top", () -> x.rename(0, 1));
        Due.fails(Due.INDEX, x, "rename(4, 0) without a top", () -> x.rename(4, 0));
        x.name(7);
        Due.is(2, "rename", () -> x.rename(0, 1));
        Due.is(3, "rename", () -> x.rename(2, 3));
        Due.is(4, "rename to itself", () -> x.rename(1, 1));
        Due.is(5, "rename", () -> x.rename(3, 0));
        Due.is("((((X7:ab):cd):bb):da)", "the channels' letters", () -> x.text(0));
        for (int size = 6; size <= 24; size++) {
            Due.is(size, "rename", () -> x.rename(0, 3));
        }
        Due.fails(Due.STATE, x, "rename to a size of 25", () -> x.rename(0, 1));
        for (int channel : new int[] {-1, 4, Integer.MAX_VALUE, Integer.MIN_VALUE}) {
            Due.fails(Due.INDEX, x, "rename from " + channel, () -> x.rename(channel, 0));
            Due.fails(Due.INDEX, x, "rename to " + channel, () -> x.rename(0, channel));
        }
    }

    private static void drop() {
        Twotalk x = new Twotalk();
        Due.fails(Due.STATE, x, "drop without a top", x::drop);
        Due.put(x, "a.0");
        Due.put(x, "b.0");
        Due.is(1, "drop", x::drop);
        Due.is("a.0", "what was below", () -> x.text(0));
        Due.is(0, "drop", x::drop);
        Due.fails(Due.STATE, x, "drop without a top", x::drop);
    }

    private static void text() {
        Twotalk x = new Twotalk();
        Due.fails(Due.INDEX, x, "text(0) without a term", () -> x.text(0));
        String[] all = {"((a.X0+b.0)|((X2-b)+A.(0|0)))", "(a.0+(X1|0))", "((0-d):ca)", "t.D.0", "X5", "0"};
        for (String each : all) {
            Due.put(x, each);
        }
        for (int i = 0; i < all.length; i++) {
            int asked = i;
            Due.is(all[all.length - 1 - i], "text(" + i + ")", () -> x.text(asked));
        }
        Due.fails(Due.INDEX, x, "text(6) of six", () -> x.text(6));
        for (int i : BELOW_AND_ABOVE) {
            Due.fails(Due.INDEX, x, "text(" + i + ")", () -> x.text(i));
        }
        x.name(2);
        Due.is("X2", "text(0), one more on top", () -> x.text(0));
        Due.is("((a.X0+b.0)|((X2-b)+A.(0|0)))", "text(6), one more on top", () -> x.text(6));
    }

    private static void tell() {
        Twotalk x = new Twotalk();
        Due.fails(Due.STATE, x, "tell without a top", () -> x.tell(0));
        Due.fails(Due.INDEX, x, "tell(8) without a top", () -> x.tell(8));
        Due.put(x, "b.0");
        Due.put(x, "a.0");
        for (int k : new int[] {-1, 8, Integer.MAX_VALUE, Integer.MIN_VALUE}) {
            Due.fails(Due.INDEX, x, "tell(" + k + ")", () -> x.tell(k));
        }
        Due.is(0, "tell", () -> x.tell(7));
        Due.is("b.0", "the top is taken away", () -> x.text(0));
        Due.is("a.0", "it is meant", () -> x.meant(7));
        Due.graph(x, 2, "X7");
        Due.is(1, "tell again", () -> x.tell(7));
        Due.is("b.0", "the later one is meant", () -> x.meant(7));
        Due.is("a1", "a graph that is made stays", () -> x.steps(2, 0));
        Due.is(1, "one name is told", () -> x.house(1));
        String[] unguarded = {"X3", "X4", "(X3|X3)", "a.0", "X3"};
        for (int i = 0; i < unguarded.length; i++) {
            int before = i > 0 ? 1 : 0;
            Due.put(x, unguarded[i]);
            Due.is(before, "tell of X3, guarded or not", () -> x.tell(3));
        }
    }

    private static void meant() {
        Twotalk x = Due.house("0=a.(X0+(X1-b))", "3=0");
        Due.is("a.(X0+(X1-b))", "meant(0)", () -> x.meant(0));
        Due.is("0", "meant(3)", () -> x.meant(3));
        Due.is("", "meant(1), not told", () -> x.meant(1));
        Due.is("", "meant(7), not told", () -> x.meant(7));
        Due.put(x, "a.0");
        x.tell(2);
        x.nil();
        x.step(3);
        Due.is("a.0", "meant(2) as the stack goes on", () -> x.meant(2));
        for (int k : new int[] {-1, 8, Integer.MAX_VALUE, Integer.MIN_VALUE}) {
            Due.fails(Due.INDEX, x, "meant(" + k + ")", () -> x.meant(k));
        }
    }

    private static void guarded(String due, String... lines) {
        Twotalk x = Due.house(lines);
        for (int k = 0; k < 8; k++) {
            int asked = k;
            Due.is(due.indexOf('0' + k) >= 0, "isGuarded(" + k + ") of " + String.join(", ", lines),
                    () -> x.isGuarded(asked));
        }
        Due.is(due.length(), "house(2) of " + String.join(", ", lines), () -> x.house(2));
    }

    private static void isGuarded() {
        guarded("");
        guarded("0", "0=0");
        guarded("0", "0=a.X0");
        guarded("0", "0=a.X5");
        guarded("", "0=X0");
        guarded("", "0=(a.0+X0)");
        guarded("", "0=((b.X0|X0)-a)");
        guarded("", "0=(X0:ab)");
        guarded("", "0=X1");
        guarded("", "0=X1", "1=X0");
        guarded("", "0=X1", "1=(X2|0)", "2=(X0-a)");
        guarded("01", "0=X1", "1=a.X0");
        guarded("12", "0=(X1+X0)", "1=a.X0", "2=(X1|X1)");
        guarded("", "0=X1", "1=X1");
        guarded("2", "0=(X2+X1)", "1=(a.0|X1)", "2=a.X1");
        guarded("1", "0=(X1+X3)", "1=b.X0");
        guarded("", "1=X0", "0=X2");
        guarded("", "1=(X0|a.0)", "0=(X2:ab)", "2=(b.0+X2)");
        guarded("37", "7=X3", "3=a.X7", "6=(X7+X5)", "5=X4", "4=X5");
        guarded("01234567", "0=X1", "1=X2", "2=X3", "3=X4", "4=X5", "5=X6", "6=X7", "7=t.X0");
        guarded("", "0=X1", "1=X2", "2=X3", "3=X4", "4=X5", "5=X6", "6=X7", "7=(a.0+X0)");
        Twotalk x = Due.house("0=X1");
        Due.is(false, "comes to one not told", () -> x.isGuarded(0));
        Due.told(x, "1=a.0");
        Due.is(true, "that is told later", () -> x.isGuarded(0));
        Due.told(x, "1=X0");
        Due.is(false, "and comes back later", () -> x.isGuarded(0));
        for (int k : new int[] {-1, 8, Integer.MAX_VALUE, Integer.MIN_VALUE}) {
            Due.fails(Due.INDEX, x, "isGuarded(" + k + ")", () -> x.isGuarded(k));
        }
    }

    /** From each name by each other one to each third one: that one decides, whichever numbers they have. */
    private static void isGuardedByWayOfEach() {
        for (int all = 0; all < 8 * 8 * 8; all++) {
            int first = all / 64;
            int second = all / 8 % 8;
            int third = all % 8;
            if (first == second || second == third || first == third) {
                continue;
            }
            String one = first + "=X" + second;
            String other = second + "=X" + third;
            guarded("", one, other);
            guarded("", one, other, third + "=X" + third);
            guarded("", one, other, third + "=X" + first);
            guarded("" + third, one, second + "=(X" + second + "|X" + third + ")", third + "=0");
            guarded("" + first + second + third, one, other, third + "=t.X" + first);
        }
    }
}
