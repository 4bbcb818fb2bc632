/** The bounds that section 1 and the promises 1 to 13 name, sentence by sentence. */
public final class BoundsOfTermsTest {
    private static final String STEPS_24 = "a.a.a.a.a.a.a.a.a.a.a.a.a.a.a.a.a.a.a.a.a.a.a.0";

    public static void main(String[] args) {
        newObject();
        nilIfThereAre8();
        nameNumber();
        nameIfThereAre8();
        stepAct();
        stepIfEmpty();
        stepSize();
        eitherIfLessThanTwo();
        eitherSize();
        besideIfLessThanTwo();
        besideSize();
        hideChannel();
        hideIfEmpty();
        hideSize();
        renameChannels();
        renameIfEmpty();
        renameSize();
        dropIfEmpty();
        textIfNoneSuch();
        tellName();
        tellIfEmpty();
        tellOfTheLargest();
        meantName();
        meantIfNotTold();
        isGuardedName();
        guardedIfNotBackToItself();
        guardedIfNoneIsUntold();
        guardedIfNoneIsBackToItself();
        guardedAllAlongEight();
        Due.end();
    }

    /** A house with so many terms on the stack, "X0" the lowest one, and something else on the desk and told. */
    private static Twotalk holding(int count) {
        Twotalk x = Due.house("2=a.X2", "5=X5");
        Due.say(x, "<a>T");
        for (int i = 0; i < count; i++) {
            x.name(i);
        }
        return x;
    }

    /** A house whose top is the term, with something below it. */
    private static Twotalk topped(String term) {
        Twotalk x = holding(1);
        Due.put(x, term);
        return x;
    }

    private static Twotalk topped(String second, String top) {
        Twotalk x = topped(second);
        Due.put(x, top);
        return x;
    }

    /** A row of steps whose size is that. */
    private static String sized(int size) {
        return STEPS_24.substring(2 * (24 - size));
    }

    /** "Creates a house without names." "at first one STATE each, NIL" */
    private static void newObject() {
        for (int k = 0; k < 8; k++) {
            int name = k;
            Edge.allowed("", "meant(" + k + ") of a new house", Twotalk::new, x -> x.meant(name));
            Edge.allowed(false, "isGuarded(" + k + ") of a new house", Twotalk::new, x -> x.isGuarded(name));
        }
        for (int n = 0; n < 4; n++) {
            int graph = n;
            Edge.allowed("1 0 ", "graph " + n + " of a new house", Twotalk::new,
                    x -> x.ofGraph(graph, 0) + " " + x.term(graph, 0) + " " + x.steps(graph, 0));
        }
        int[] due = {0, 0, 0, 4, 0, 0, 0, 6, 6, 6};
        for (int what = 0; what < due.length; what++) {
            int asked = what;
            Edge.allowed(due[what], "house(" + what + ") of a new house", Twotalk::new, x -> x.house(asked));
        }
    }

    /** "The STACK has at most 8 TERMS" "Throws IllegalStateException if there are 8" */
    private static void nilIfThereAre8() {
        for (int count = 0; count < 8; count++) {
            Edge.allowed(count + 1, "nil on " + count, house(count), Twotalk::nil);
        }
        Edge.refused(Due.STATE, "nil on 8", house(8), Twotalk::nil);
        Edge.allowed(8, "nil on 8, one of which was dropped", house(8), x -> x.drop() + x.nil() - 7);
        Edge.allowed("0 X6 X0", "the eighth on the seven", house(7),
                x -> x.nil() == 8 ? x.text(0) + " " + x.text(1) + " " + x.text(7) : "");
    }

    private static Edge.House house(int count) {
        return () -> holding(count);
    }

    /** "Throws IndexOutOfBoundsException if k is not 0 to 7" (name), and first of both */
    private static void nameNumber() {
        Edge.range(Due.INDEX, 0, 7, "name", house(7), Twotalk::name);
        Edge.outside(Due.INDEX, 0, 7, "name on 8", house(8), Twotalk::name);
        Edge.outside(Due.INDEX, 0, 7, "name on none", Twotalk::new, Twotalk::name);
        Edge.allowed("X0", "the first name", house(3), x -> x.name(0) == 4 ? x.text(0) : "");
        Edge.allowed("X7", "the last name", house(3), x -> x.name(7) == 4 ? x.text(0) : "");
    }

    /** "Throws IllegalStateException if there are 8" (name) */
    private static void nameIfThereAre8() {
        for (int count = 0; count < 8; count++) {
            Edge.allowed(count + 1, "name on " + count, house(count), x -> x.name(7));
        }
        Edge.refused(Due.STATE, "name(0) on 8", house(8), x -> x.name(0));
        Edge.refused(Due.STATE, "name(7) on 8", house(8), x -> x.name(7));
    }

    /** "Throws IndexOutOfBoundsException if act is not 0 to 8", and first of both */
    private static void stepAct() {
        Edge.range(Due.INDEX, 0, 8, "step", () -> topped("0"), Twotalk::step);
        Edge.outside(Due.INDEX, 0, 8, "step on none", Twotalk::new, Twotalk::step);
        Edge.outside(Due.INDEX, 0, 8, "step of the size 24", () -> topped(sized(24)), Twotalk::step);
        String letters = "tabcdABCD";
        for (int act = 0; act <= 8; act++) {
            int asked = act;
            Edge.allowed(letters.charAt(act) + ".X0", "the step by " + act, house(1),
                    x -> x.step(asked) == 2 ? x.text(0) : "");
        }
    }

    /** "Throws IllegalStateException if the STACK is empty" (step) */
    private static void stepIfEmpty() {
        Edge.refused(Due.STATE, "step on none", Twotalk::new, x -> x.step(0));
        Edge.refused(Due.STATE, "step on none, as all is dropped", () -> dropped(1), x -> x.step(8));
        Edge.allowed(2, "step on one", house(1), x -> x.step(0));
        Edge.allowed(2, "step on eight", house(8), x -> x.step(0));
    }

    private static Twotalk dropped(int count) {
        Twotalk x = holding(count);
        for (int i = 0; i < count; i++) {
            x.drop();
        }
        return x;
    }

    /** "no TERM on the STACK has a SIZE above 24" "or the SIZE would be above 24" (step) */
    private static void stepSize() {
        Edge.allowed(23, "step of the size 22", () -> topped(sized(22)), x -> x.step(8));
        Edge.allowed(24, "step of the size 23", () -> topped(sized(23)), x -> x.step(8));
        Edge.allowed("D." + sized(23), "its text", () -> topped(sized(23)), x -> x.step(8) > 0 ? x.text(0) : "");
        Edge.refused(Due.STATE, "step of the size 24", () -> topped(sized(24)), x -> x.step(0));
        Edge.refused(Due.STATE, "step of pairs of the size 24", () -> topped("(" + sized(11) + "|" + sized(12) + ")"),
                x -> x.step(1));
        Edge.House names = () -> {
            Twotalk x = Due.house("7=" + sized(24));
            Due.put(x, "(a.X7+X7)");
            Due.put(x, "X7");
            return x;
        };
        Edge.allowed(6, "a name counts as one, whatever it means", names, Twotalk::beside);
        Edge.allowed(2, "step of a small one above a large one", () -> topped(sized(24), "X4"), x -> x.step(1));
    }

    /** "Throws IllegalStateException if there are less than two" (either) */
    private static void eitherIfLessThanTwo() {
        Edge.refused(Due.STATE, "either of none", Twotalk::new, Twotalk::either);
        Edge.refused(Due.STATE, "either of none, as all are dropped", () -> dropped(2), Twotalk::either);
        Edge.refused(Due.STATE, "either of one", house(1), Twotalk::either);
        Edge.allowed("3 (X0+X1) 1", "either of two", house(2), x -> x.either() + " " + x.text(0) + " " + x.house(0));
        Edge.allowed("3 (X6+X7) X5 7", "either of eight", house(8),
                x -> x.either() + " " + x.text(0) + " " + x.text(1) + " " + x.house(0));
    }

    /** "or the SIZE would be above 24" (either) */
    private static void eitherSize() {
        for (int size = 1; size <= 22; size++) {
            int top = 23 - size;
            int second = size;
            Edge.allowed(24, "either of " + size + " and " + top, () -> topped(sized(second), sized(top)),
                    Twotalk::either);
            Edge.refused(Due.STATE, "either of " + size + " and " + (top + 1),
                    () -> topped(sized(second), sized(top + 1)), Twotalk::either);
        }
        Edge.refused(Due.STATE, "either of 24 and 1", () -> topped(sized(24), "0"), Twotalk::either);
        Edge.refused(Due.STATE, "either of 1 and 24", () -> topped("0", sized(24)), Twotalk::either);
        Edge.refused(Due.STATE, "either of 24 and 24", () -> topped(sized(24), sized(24)), Twotalk::either);
    }

    /** "Throws IllegalStateException if there are less than two" (beside) */
    private static void besideIfLessThanTwo() {
        Edge.refused(Due.STATE, "beside of none", Twotalk::new, Twotalk::beside);
        Edge.refused(Due.STATE, "beside of none, as all are dropped", () -> dropped(2), Twotalk::beside);
        Edge.refused(Due.STATE, "beside of one", house(1), Twotalk::beside);
        Edge.allowed("3 (X0|X1) 1", "beside of two", house(2), x -> x.beside() + " " + x.text(0) + " " + x.house(0));
        Edge.allowed("3 (X6|X7) X5 7", "beside of eight", house(8),
                x -> x.beside() + " " + x.text(0) + " " + x.text(1) + " " + x.house(0));
    }

    /** "or the SIZE would be above 24" (beside) */
    private static void besideSize() {
        for (int size = 1; size <= 22; size++) {
            int top = 23 - size;
            int second = size;
            Edge.allowed(24, "beside of " + size + " and " + top, () -> topped(sized(second), sized(top)),
                    Twotalk::beside);
            Edge.refused(Due.STATE, "beside of " + size + " and " + (top + 1),
                    () -> topped(sized(second), sized(top + 1)), Twotalk::beside);
        }
        Edge.refused(Due.STATE, "beside of 24 and 1", () -> topped(sized(24), "0"), Twotalk::beside);
        Edge.refused(Due.STATE, "beside of 1 and 24", () -> topped("0", sized(24)), Twotalk::beside);
        Edge.refused(Due.STATE, "beside of 24 and 24", () -> topped(sized(24), sized(24)), Twotalk::beside);
    }

    /** "Throws IndexOutOfBoundsException if channel is not 0 to 3", and first of both */
    private static void hideChannel() {
        Edge.range(Due.INDEX, 0, 3, "hide", () -> topped("0"), Twotalk::hide);
        Edge.outside(Due.INDEX, 0, 3, "hide on none", Twotalk::new, Twotalk::hide);
        Edge.outside(Due.INDEX, 0, 3, "hide of the size 24", () -> topped(sized(24)), Twotalk::hide);
        for (int channel = 0; channel <= 3; channel++) {
            int asked = channel;
            Edge.allowed("(X0-" + "abcd".charAt(channel) + ")", "hide(" + channel + ")", house(1),
                    x -> x.hide(asked) == 2 ? x.text(0) : "");
        }
    }

    /** "Throws IllegalStateException if the STACK is empty" (hide) */
    private static void hideIfEmpty() {
        Edge.refused(Due.STATE, "hide on none", Twotalk::new, x -> x.hide(0));
        Edge.refused(Due.STATE, "hide on none, as all is dropped", () -> dropped(1), x -> x.hide(3));
        Edge.allowed(2, "hide on one", house(1), x -> x.hide(0));
        Edge.allowed(2, "hide on eight", house(8), x -> x.hide(3));
    }

    /** "or the SIZE would be above 24" (hide) */
    private static void hideSize() {
        Edge.allowed(24, "hide of the size 23", () -> topped(sized(23)), x -> x.hide(3));
        Edge.allowed("(" + sized(23) + "-d)", "its text", () -> topped(sized(23)), x -> x.hide(3) > 0 ? x.text(0) : "");
        Edge.refused(Due.STATE, "hide of the size 24", () -> topped(sized(24)), x -> x.hide(0));
        Edge.refused(Due.STATE, "hide of pairs of the size 24", () -> topped("(" + sized(11) + "+" + sized(12) + ")"),
                x -> x.hide(1));
    }

    /** "Throws IndexOutOfBoundsException if from or to is not 0 to 3", and first of both */
    private static void renameChannels() {
        Edge.range(Due.INDEX, 0, 3, "rename from", () -> topped("0"), (x, from) -> x.rename(from, 3));
        Edge.range(Due.INDEX, 0, 3, "rename to", () -> topped("0"), (x, to) -> x.rename(3, to));
        Edge.outside(Due.INDEX, 0, 3, "rename both", () -> topped("0"), (x, both) -> x.rename(both, both));
        Edge.outside(Due.INDEX, 0, 3, "rename from, on none", Twotalk::new, (x, from) -> x.rename(from, 0));
        Edge.outside(Due.INDEX, 0, 3, "rename to, on none", Twotalk::new, (x, to) -> x.rename(0, to));
        Edge.outside(Due.INDEX, 0, 3, "rename from, of the size 24", () -> topped(sized(24)),
                (x, from) -> x.rename(from, 0));
        Edge.outside(Due.INDEX, 0, 3, "rename to, of the size 24", () -> topped(sized(24)),
                (x, to) -> x.rename(0, to));
        for (int pair = 0; pair < 16; pair++) {
            int from = pair / 4;
            int to = pair % 4;
            Edge.allowed("(X0:" + "abcd".charAt(from) + "abcd".charAt(to) + ")", "rename " + from + " to " + to,
                    house(1), x -> x.rename(from, to) == 2 ? x.text(0) : "");
        }
    }

    /** "Throws IllegalStateException if the STACK is empty" (rename) */
    private static void renameIfEmpty() {
        Edge.refused(Due.STATE, "rename on none", Twotalk::new, x -> x.rename(0, 0));
        Edge.refused(Due.STATE, "rename on none, as all is dropped", () -> dropped(1), x -> x.rename(3, 3));
        Edge.allowed(2, "rename on one", house(1), x -> x.rename(0, 3));
        Edge.allowed(2, "rename on eight", house(8), x -> x.rename(3, 0));
    }

    /** "or the SIZE would be above 24" (rename) */
    private static void renameSize() {
        Edge.allowed(24, "rename of the size 23", () -> topped(sized(23)), x -> x.rename(0, 3));
        Edge.allowed("(" + sized(23) + ":ad)", "its text", () -> topped(sized(23)),
                x -> x.rename(0, 3) > 0 ? x.text(0) : "");
        Edge.refused(Due.STATE, "rename of the size 24", () -> topped(sized(24)), x -> x.rename(0, 1));
        Edge.refused(Due.STATE, "rename to itself, of the size 24", () -> topped(sized(24)), x -> x.rename(2, 2));
    }

    /** "Throws IllegalStateException if it is empty" (drop) */
    private static void dropIfEmpty() {
        Edge.refused(Due.STATE, "drop of none", Twotalk::new, Twotalk::drop);
        Edge.refused(Due.STATE, "drop of none, as all are dropped", () -> dropped(8), Twotalk::drop);
        for (int count = 1; count <= 8; count++) {
            Edge.allowed(count - 1, "drop of " + count, house(count), Twotalk::drop);
        }
        Edge.allowed("X0", "drop of two leaves the lower one", house(2), x -> x.drop() == 1 ? x.text(0) : "");
    }

    /** "Throws IndexOutOfBoundsException if there is none such" */
    private static void textIfNoneSuch() {
        for (int count = 1; count <= 8; count++) {
            int last = count - 1;
            Edge.range(Due.INDEX, 0, last, "text of " + count, house(count), Twotalk::text);
            Edge.allowed("X" + last, "the top of " + count, house(count), x -> x.text(0));
            Edge.allowed("X0", "the lowest of " + count, house(count), x -> x.text(last));
        }
        Edge.refused(Due.INDEX, "text(0) of none", Twotalk::new, x -> x.text(0));
        Edge.refused(Due.INDEX, "text(0) of none, as all are dropped", () -> dropped(3), x -> x.text(0));
        Edge.refused(Due.INDEX, "text(-1) of none", Twotalk::new, x -> x.text(-1));
        Edge.refused(Due.INDEX, "text(8) of eight", house(8), x -> x.text(8));
        Edge.allowed(sized(24), "text of the size 24", () -> topped(sized(24)), x -> x.text(0));
        String renamed = "(((((((((((((((((((((((0" + ":cd)".repeat(23);
        Edge.allowed(renamed, "the longest text", () -> topped(renamed), x -> x.text(0));
    }

    /** "Throws IndexOutOfBoundsException if k is not 0 to 7" (tell), and first of both */
    private static void tellName() {
        Edge.range(Due.INDEX, 0, 7, "tell", house(1), Twotalk::tell);
        Edge.outside(Due.INDEX, 0, 7, "tell on none", Twotalk::new, Twotalk::tell);
        Edge.allowed("0 X0", "the first name", house(1), x -> x.tell(0) + " " + x.meant(0));
        Edge.allowed("0 X0", "the last name", house(1), x -> x.tell(7) + " " + x.meant(7));
        Edge.allowed("1 X0", "a name that is told", house(1), x -> x.tell(2) + " " + x.meant(2));
    }

    /** "Throws IllegalStateException if the STACK is empty" (tell) */
    private static void tellIfEmpty() {
        Edge.refused(Due.STATE, "tell on none", Twotalk::new, x -> x.tell(0));
        Edge.refused(Due.STATE, "tell of a name that is told, as all is dropped", () -> dropped(1), x -> x.tell(2));
        Edge.allowed("0 0", "tell on one", house(1), x -> x.tell(0) + " " + x.house(0));
        Edge.allowed("0 7 X6", "tell on eight", house(8), x -> x.tell(0) + " " + x.house(0) + " " + x.text(0));
    }

    /** "it means a TERM": as large as a term of the stack may be */
    private static void tellOfTheLargest() {
        Edge.allowed(sized(24), "meant, of the size 24", () -> topped(sized(24)),
                x -> x.tell(4) == 0 ? x.meant(4) : "");
        Edge.allowed("0", "a small one in its place", () -> topped("0", sized(24)),
                x -> x.tell(4) + x.tell(4) == 1 ? x.meant(4) : "");
    }

    /** "Throws IndexOutOfBoundsException if k is not 0 to 7" (meant) */
    private static void meantName() {
        Edge.range(Due.INDEX, 0, 7, "meant", house(0), Twotalk::meant);
        Edge.outside(Due.INDEX, 0, 7, "meant of a new house", Twotalk::new, Twotalk::meant);
        Edge.allowed("a.X2", "meant of one that is told", house(0), x -> x.meant(2));
    }

    /** "\"\" if it is not TOLD" */
    private static void meantIfNotTold() {
        Edge.allowed("", "meant(0), not told", house(1), x -> x.meant(0));
        Edge.allowed("", "meant(7), not told", house(1), x -> x.meant(7));
        Edge.allowed("0", "meant of nil", () -> Due.house("7=0"), x -> x.meant(7));
    }

    /** "Throws IndexOutOfBoundsException if k is not 0 to 7" (isGuarded) */
    private static void isGuardedName() {
        Edge.range(Due.INDEX, 0, 7, "isGuarded", house(0), Twotalk::isGuarded);
        Edge.outside(Due.INDEX, 0, 7, "isGuarded of a new house", Twotalk::new, Twotalk::isGuarded);
    }

    private static void guarded(boolean due, int k, String... lines) {
        Edge.allowed(due, "isGuarded(" + k + ") of " + String.join(", ", lines), () -> Due.house(lines),
                x -> x.isGuarded(k));
    }

    /** "GUARDED, if one does not come back to it from its TERM by NAMES that do not stand behind a STEP" */
    private static void guardedIfNotBackToItself() {
        guarded(false, 0, "0=X0");
        guarded(true, 0, "0=t.X0");
        guarded(true, 0, "0=t.(X0|X0)");
        guarded(false, 0, "0=(t.X0+X0)");
        guarded(false, 0, "0=(X0+t.X0)");
        guarded(false, 0, "0=(t.0|X0)");
        guarded(false, 0, "0=(X0-a)");
        guarded(false, 0, "0=(X0:ab)");
        guarded(true, 0, "0=((t.X0|t.X0)-a)");
        guarded(false, 0, "0=X1", "1=X0");
        guarded(true, 0, "0=X1", "1=a.X0");
        guarded(true, 1, "0=X1", "1=a.X0");
        guarded(false, 0, "0=(X0+X1)", "1=0");
        guarded(false, 0, "0=(X1+X0)", "1=0");
        guarded(false, 0, "0=((X1|X2)+X1)", "1=0", "2=X0");
    }

    /** "(nor come to one that is not TOLD": as it is told it may be guarded at once */
    private static void guardedIfNoneIsUntold() {
        guarded(false, 5);
        guarded(false, 0, "0=X1");
        guarded(false, 0, "0=(a.0+(X1-b))");
        guarded(true, 0, "0=a.X1");
        guarded(false, 0, "0=X1", "1=X7");
        guarded(true, 0, "0=X1", "1=a.X7");
        guarded(true, 0, "0=X1", "1=X7", "7=0");
        guarded(true, 0, "1=X7", "7=0", "0=X1");
        guarded(false, 0, "0=(X2+X1)", "1=0");
        guarded(false, 0, "0=(X1+X2)", "1=0");
        guarded(true, 0, "0=(X1+X2)", "1=0", "2=0");
    }

    /** "or from which one comes back to itself so)" */
    private static void guardedIfNoneIsBackToItself() {
        guarded(false, 0, "0=X1", "1=X1");
        guarded(false, 0, "0=X1", "1=X2", "2=X1");
        guarded(true, 0, "0=a.X1", "1=X1");
        guarded(true, 0, "0=X1", "1=a.X2", "2=X2");
        guarded(true, 0, "0=X1", "1=X1", "1=a.X1");
        guarded(false, 0, "0=X1", "1=a.X1", "1=X1");
        guarded(false, 0, "0=(X1+X2)", "1=X1", "2=0");
        guarded(false, 0, "0=(X2+X1)", "1=X1", "2=0");
    }

    /** From the first name to the last one; the way back is the last thing that is seen. */
    private static void guardedAllAlongEight() {
        String[] up = {"0=X1", "1=X2", "2=X3", "3=X4", "4=X5", "5=X6", "6=X7", "7=a.X0"};
        String[] down = {"7=X6", "6=X5", "5=X4", "4=X3", "3=X2", "2=X1", "1=X0", "0=a.X7"};
        for (int k = 0; k < 8; k++) {
            guarded(true, k, up);
            guarded(true, k, down);
        }
        up[7] = "7=X0";
        down[7] = "0=X7";
        for (int k = 0; k < 8; k++) {
            guarded(false, k, up);
            guarded(false, k, down);
            guarded(false, k, "0=X1", "1=X2", "2=X3", "3=X4", "4=X5", "5=X6", "6=X7");
        }
        Edge.allowed(8, "eight are guarded", () -> Due.house("0=0", "1=0", "2=0", "3=0", "4=0", "5=0", "6=0", "7=0"),
                x -> x.house(2));
    }
}
