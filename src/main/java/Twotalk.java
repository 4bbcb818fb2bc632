import java.util.Arrays;
import java.util.NoSuchElementException;

/** A house for processes that offer and take, side by side. */
public final class Twotalk {
    private static final int NONE = -1;
    private static final int OVER = -2;
    private static final int ACTS = 9;
    private static final int CHANNELS = 4;
    private static final int NAMES = 8;
    private static final int GRAPHS = 4;
    private static final int STATES = 24;
    private static final int EXAMPLES = 5;
    private static final int STACK_ROOM = 8;
    private static final int TERM_SIZE = 24;
    private static final int STATE_SIZE = 48;
    private static final int DESK_ROOM = 6;
    private static final int SENTENCE_SIZE = 24;
    private static final int TEXT_BOUND = 400;
    private static final int FORM_BOUND = 200;
    private static final int REFUSALS = 1;
    private static final int UNSEEN = 2;
    private static final int BRANCHES = 3;
    private static final int STEPS = 4;
    private static final int TEST_ACT = 4;

    private final Row[] stack = new Row[STACK_ROOM];
    private final Row[] names = new Row[NAMES];
    private final Row[] desk = new Row[DESK_ROOM];
    private final Graph[] graphs = new Graph[GRAPHS];
    private final Graph[] lone = new Graph[1];
    private final Row draft = new Row(TERM_SIZE);
    private final Pen pen = new Pen();
    private final Unfolding unfolding = new Unfolding();
    /** Those of the looks 2 to 4. */
    private final Rounds[] rounds = new Rounds[STEPS - UNSEEN + 1];
    private final Rounds loneRounds = new Rounds(STEPS, 1);
    private final Words words = new Words();
    private final Parting parting = new Parting();
    private final Trial trial = new Trial();
    private final Forms forms = new Forms();
    private int stackCount;
    private int deskCount;
    private int toldNames;
    private int guardedNames;
    private int knocks;

    public Twotalk() {
        for (int i = 0; i < STACK_ROOM; i++) {
            stack[i] = new Row(TERM_SIZE);
        }
        for (int k = 0; k < NAMES; k++) {
            names[k] = new Row(TERM_SIZE);
        }
        for (int i = 0; i < DESK_ROOM; i++) {
            desk[i] = new Row(SENTENCE_SIZE);
        }
        for (int n = 0; n < GRAPHS; n++) {
            graphs[n] = new Graph();
        }
        lone[0] = new Graph();
        for (int look = UNSEEN; look <= STEPS; look++) {
            rounds[look - UNSEEN] = new Rounds(look, GRAPHS);
        }
    }

    // ---- terms

    public int nil() throws IllegalStateException {
        return push(Sign.NIL);
    }

    public int name(int k) throws IndexOutOfBoundsException, IllegalStateException {
        checkName(k);
        return push(Sign.NAME + k);
    }

    public int step(int act) throws IndexOutOfBoundsException, IllegalStateException {
        checkAct(act);
        return wrapTop(Sign.STEP + act);
    }

    public int either() throws IllegalStateException {
        return joinTwo(Sign.EITHER);
    }

    public int beside() throws IllegalStateException {
        return joinTwo(Sign.BESIDE);
    }

    public int hide(int channel) throws IndexOutOfBoundsException, IllegalStateException {
        checkChannel(channel);
        return wrapTop(Sign.HIDE + channel);
    }

    public int rename(int from, int to) throws IndexOutOfBoundsException, IllegalStateException {
        checkChannel(from);
        checkChannel(to);
        return wrapTop(Sign.RENAME + from * CHANNELS + to);
    }

    public int drop() throws IllegalStateException {
        checkTop();
        stackCount--;
        return stackCount;
    }

    public String text(int i) throws IndexOutOfBoundsException {
        if (i < 0 || i >= stackCount) {
            throw new IndexOutOfBoundsException("no such term");
        }
        return pen.textOf(stack[stackCount - 1 - i]);
    }

    public int tell(int k) throws IndexOutOfBoundsException, IllegalStateException {
        checkName(k);
        checkTop();
        int before = toldNames >> k & 1;
        stackCount--;
        mean(k, stack[stackCount]);
        findGuarded();
        return before;
    }

    public String meant(int k) throws IndexOutOfBoundsException {
        checkName(k);
        return isTold(k) ? pen.textOf(names[k]) : "";
    }

    public boolean isGuarded(int k) throws IndexOutOfBoundsException {
        checkName(k);
        return (guardedNames >> k & 1) == 1;
    }

    private int push(int code) {
        if (stackCount >= STACK_ROOM) {
            throw new IllegalStateException("the stack is full");
        }
        stack[stackCount].set(code);
        stackCount++;
        return stackCount;
    }

    private int wrapTop(int code) {
        checkTop();
        Row top = stack[stackCount - 1];
        if (top.size + 1 > TERM_SIZE) {
            throw new IllegalStateException("the term would be too large");
        }
        top.wrap(code);
        return top.size;
    }

    private int joinTwo(int code) {
        if (stackCount < 2) {
            throw new IllegalStateException("there are less than two terms");
        }
        Row second = stack[stackCount - 2];
        Row top = stack[stackCount - 1];
        if (second.size + top.size + 1 > TERM_SIZE) {
            throw new IllegalStateException("the term would be too large");
        }
        second.join(code, top);
        stackCount--;
        return second.size;
    }

    private void mean(int k, Row row) {
        names[k].copy(row);
        toldNames |= 1 << k;
    }

    private boolean isTold(int k) {
        return (toldNames >> k & 1) == 1;
    }

    private void findGuarded() {
        int[] come = new int[NAMES];
        for (int k = 0; k < NAMES; k++) {
            come[k] = isTold(k) ? names[k].openNames() : 0;
        }
        for (int by = 0; by < NAMES; by++) {
            for (int k = 0; k < NAMES; k++) {
                if ((come[k] >> by & 1) == 1) {
                    come[k] |= come[by];
                }
            }
        }
        int sure = 0;
        for (int k = 0; k < NAMES; k++) {
            if (isTold(k) && (come[k] >> k & 1) == 0) {
                sure |= 1 << k;
            }
        }
        guardedNames = 0;
        for (int k = 0; k < NAMES; k++) {
            if ((sure >> k & 1) == 1 && (come[k] & ~sure) == 0) {
                guardedNames |= 1 << k;
            }
        }
    }

    // ---- graphs

    public int graph(int n) throws IndexOutOfBoundsException, IllegalStateException, IllegalArgumentException {
        checkGraph(n);
        checkTop();
        if (!unfolding.build(stack[stackCount - 1], names, guardedNames, lone[0])) {
            throw new IllegalArgumentException("the term has no graph within the bound");
        }
        stackCount--;
        takeLone(n);
        return graphs[n].count;
    }

    public int example(int k) throws IndexOutOfBoundsException {
        if (k < 0 || k >= EXAMPLES) {
            throw new IndexOutOfBoundsException("no such example");
        }
        if (k == 0) {
            tellAll("aCX0", "cBX1", "aX3", "+aX4BX2", "BX3");
        } else if (k == 1) {
            tellAll("AcBX0", "AdBX1", "abX2", "+tctX3tdtX3", "");
        } else if (k == 3) {
            tellAll("tX0", "+tX1a0", "", "", "");
        }
        for (int n = 0; n < 2; n++) {
            draft.read(exampleTerm(k, n));
            if (unfolding.build(draft, names, guardedNames, lone[0])) {
                takeLone(n);
            }
        }
        return graphs[0].count + graphs[1].count;
    }

    public int smallest(int n, int to) throws IndexOutOfBoundsException {
        checkGraph(n);
        checkGraph(to);
        lone[0].shrink(graphs[n], fresh(STEPS), n * STATES);
        takeLone(to);
        return graphs[to].count;
    }

    public int ofGraph(int n, int what) throws IndexOutOfBoundsException, IllegalArgumentException {
        checkGraph(n);
        if (what < 0 || what > 5) {
            throw new IllegalArgumentException("what is 0 to 5");
        }
        return countOf(graphs[n], what);
    }

    public int ofState(int n, int p, int what) throws IndexOutOfBoundsException, IllegalArgumentException {
        checkState(n, p);
        if (what < 0 || what > 5) {
            throw new IllegalArgumentException("what is 0 to 5");
        }
        return factOf(graphs[n], p, what);
    }

    public String steps(int n, int p) throws IndexOutOfBoundsException {
        checkState(n, p);
        pen.clear();
        pen.putSteps(graphs[n], p);
        return pen.written();
    }

    public String term(int n, int p) throws IndexOutOfBoundsException {
        checkState(n, p);
        return pen.textOf(graphs[n].terms[p]);
    }

    public String which(int n, boolean isDiverging) throws IndexOutOfBoundsException {
        checkGraph(n);
        pen.clear();
        pen.putSet(isDiverging ? graphs[n].diverging : graphs[n].still);
        return pen.written();
    }

    public boolean isEverAgain(int n, int act) throws IndexOutOfBoundsException {
        checkGraph(n);
        checkAct(act);
        return graphs[n].isAlwaysAhead(act);
    }

    private void tellAll(String first, String second, String third, String fourth, String fifth) {
        tellOne(0, first);
        tellOne(1, second);
        tellOne(2, third);
        tellOne(3, fourth);
        tellOne(4, fifth);
        findGuarded();
    }

    private void tellOne(int k, String signs) {
        if (!signs.isEmpty()) {
            draft.read(signs);
            mean(k, draft);
        }
    }

    private static String exampleTerm(int k, int n) {
        switch (k) {
            case 0:
                return n == 0 ? "-c|X0X1" : "X2";
            case 1:
                return n == 0 ? "-b-a||X0X1X2" : "X3";
            case 2:
                return n == 0 ? "a+b0c0" : "+ab0ac0";
            case 3:
                return n == 0 ? "|X0a0" : "X1";
            default:
                return n == 0 ? "+a0+tb0b0" : "+a0tb0";
        }
    }

    /** A new graph is made in the spare one, so that a call that fails leaves the old one as it was. */
    private void takeLone(int n) {
        Graph old = graphs[n];
        graphs[n] = lone[0];
        lone[0] = old;
        for (int i = 0; i < rounds.length; i++) {
            rounds[i].isStale = true;
        }
    }

    private static int countOf(Graph graph, int what) {
        switch (what) {
            case 0:
                return graph.count;
            case 1:
                return graph.stepCount();
            case 2:
                return Integer.bitCount(graph.still);
            case 3:
                return Integer.bitCount(graph.diverging);
            case 4:
                return graph.actsUsed();
            default:
                return graph.unseenCount();
        }
    }

    private static int factOf(Graph graph, int p, int what) {
        switch (what) {
            case 0:
                return graph.stepsFrom(p);
            case 1:
                return graph.can[p];
            case 2:
                return graph.diverging >> p & 1;
            case 3:
                return graph.still >> p & 1;
            case 4:
                return Integer.bitCount(graph.reach[p]);
            default:
                return graph.height[p];
        }
    }

    // ---- looks

    public boolean isAlike(int look, int n, int p, int m, int q)
            throws IndexOutOfBoundsException, IllegalArgumentException, IllegalStateException {
        checkState(n, p);
        checkState(m, q);
        if (look < 0 || look > STEPS) {
            throw new IllegalArgumentException("a look is 0 to 4");
        }
        int answer = alike(look, n * STATES + p, m * STATES + q);
        if (answer == OVER) {
            throw new IllegalStateException("the bound of words is not kept");
        }
        return answer == 1;
    }

    public int round(int n, int p, int m, int q, boolean isUnseen) throws IndexOutOfBoundsException {
        checkState(n, p);
        checkState(m, q);
        return fresh(isUnseen ? UNSEEN : STEPS).firstApart(n * STATES + p, m * STATES + q);
    }

    public String word(int n, int p, int m, int q)
            throws IndexOutOfBoundsException, IllegalStateException, NoSuchElementException {
        checkState(n, p);
        checkState(m, q);
        checkFound(words.search(false, graphs[n], p, graphs[m], q));
        pen.clear();
        words.write(pen);
        return pen.written();
    }

    public String refusal(int n, int p, int m, int q)
            throws IndexOutOfBoundsException, IllegalStateException, NoSuchElementException {
        checkState(n, p);
        checkState(m, q);
        checkFound(words.search(true, graphs[n], p, graphs[m], q));
        pen.clear();
        words.write(pen);
        pen.put(':');
        pen.put(words.refusedByOne(graphs[n], graphs[m]));
        return pen.written();
    }

    public String sentence(int n, int p, int m, int q, boolean isUnseen)
            throws IndexOutOfBoundsException, NoSuchElementException, IllegalStateException {
        checkState(n, p);
        checkState(m, q);
        parting.prepare(graphs, n, m, fresh(isUnseen ? UNSEEN : STEPS), isUnseen);
        checkParted(p, q);
        pen.clear();
        if (!parting.write(p, q, pen)) {
            throw new IllegalStateException("the text is too long");
        }
        return pen.written();
    }

    public String game(int n, int p, int m, int q) throws IndexOutOfBoundsException, NoSuchElementException {
        checkState(n, p);
        checkState(m, q);
        parting.prepare(graphs, n, m, fresh(STEPS), false);
        checkParted(p, q);
        pen.clear();
        parting.play(p, q, pen);
        return pen.written();
    }

    public String classes(int n, int look) throws IndexOutOfBoundsException, IllegalArgumentException {
        checkGraph(n);
        if (look < UNSEEN || look > STEPS) {
            throw new IllegalArgumentException("a look is 2 to 4 here");
        }
        putClasses(n, look);
        return pen.written();
    }

    private void putClasses(int n, int look) {
        Rounds now = fresh(look);
        pen.clear();
        for (int p = 0; p < graphs[n].count; p++) {
            if (p > 0) {
                pen.put(' ');
            }
            pen.put(now.firstAlike(n * STATES, n * STATES + p) - n * STATES);
        }
    }

    private Rounds fresh(int look) {
        Rounds now = rounds[look < UNSEEN || look > STEPS ? 0 : look - UNSEEN];
        now.refresh(graphs);
        return now;
    }

    /** 1 alike, 0 not, OVER if the bound of words is not kept. */
    private int alike(int look, int slot, int other) {
        if (look >= UNSEEN) {
            return fresh(look).firstApart(slot, other) == NONE ? 1 : 0;
        }
        int found = words.search(look == REFUSALS,
                graphs[slot / STATES], slot % STATES, graphs[other / STATES], other % STATES);
        return found == OVER ? OVER : found == NONE ? 1 : 0;
    }

    private void checkFound(int found) {
        if (found == OVER) {
            throw new IllegalStateException("the bound of words is not kept");
        }
        if (found == NONE) {
            throw new NoSuchElementException("nothing parts them");
        }
    }

    private void checkParted(int p, int q) {
        if (parting.apartAt(p, q) == NONE) {
            throw new NoSuchElementException("both are alike");
        }
    }

    // ---- sentences

    public int say(int what, int act)
            throws IllegalArgumentException, IndexOutOfBoundsException, IllegalStateException {
        if (what < 0 || what > 5) {
            throw new IllegalArgumentException("what is 0 to 5");
        }
        if (what >= 3) {
            checkAct(act);
        }
        if (what == 0) {
            sayTrue();
        } else if (what == 1) {
            sayAround(Sign.NOT);
        } else if (what == 2) {
            sayBoth();
        } else {
            sayAround((what == 3 ? Sign.SOME : what == 4 ? Sign.ALL : Sign.WEAK) + act);
        }
        return deskCount;
    }

    public int unsay() throws NoSuchElementException {
        checkSaid();
        deskCount--;
        return deskCount;
    }

    public String said() throws NoSuchElementException {
        checkSaid();
        return pen.textOf(desk[deskCount - 1]);
    }

    public int depth() throws NoSuchElementException {
        checkSaid();
        return desk[deskCount - 1].deepest();
    }

    public boolean isTrue(int n, int p) throws IndexOutOfBoundsException, NoSuchElementException {
        checkState(n, p);
        checkSaid();
        return (graphs[n].whereTrue(desk[deskCount - 1]) >> p & 1) == 1;
    }

    private void sayTrue() {
        if (deskCount >= DESK_ROOM) {
            throw new IllegalStateException("the desk is full");
        }
        desk[deskCount].set(Sign.TRUE);
        deskCount++;
    }

    private void sayAround(int code) {
        if (deskCount < 1 || desk[deskCount - 1].size + 1 > SENTENCE_SIZE) {
            throw new IllegalStateException("no sentence, or too many signs");
        }
        desk[deskCount - 1].wrap(code);
    }

    private void sayBoth() {
        if (deskCount < 2 || desk[deskCount - 2].size + desk[deskCount - 1].size + 1 > SENTENCE_SIZE) {
            throw new IllegalStateException("less than two sentences, or too many signs");
        }
        desk[deskCount - 2].join(Sign.BOTH, desk[deskCount - 1]);
        deskCount--;
    }

    private void checkSaid() {
        if (deskCount < 1) {
            throw new NoSuchElementException("the desk is empty");
        }
    }

    // ---- tests, forms

    public boolean may(int n, int m) throws IndexOutOfBoundsException {
        checkGraph(n);
        checkGraph(m);
        return trial.canBeGlad(graphs[n], graphs[m]);
    }

    public boolean must(int n, int m) throws IndexOutOfBoundsException {
        checkGraph(n);
        checkGraph(m);
        return trial.isSureToBeGlad(graphs[n], graphs[m]);
    }

    public String form(int n, int p)
            throws IndexOutOfBoundsException, IllegalArgumentException, IllegalStateException {
        checkState(n, p);
        writeForms(n, p);
        pen.clear();
        forms.putForm(p, pen);
        return pen.written();
    }

    public String proof(int n, int p)
            throws IndexOutOfBoundsException, IllegalArgumentException, IllegalStateException {
        checkState(n, p);
        writeForms(n, p);
        pen.clear();
        forms.putProof(pen);
        return pen.written();
    }

    private void writeForms(int n, int p) {
        if (graphs[n].height[p] == NONE) {
            throw new IllegalArgumentException("a row of steps goes on for ever");
        }
        if (!forms.make(graphs[n], p)) {
            throw new IllegalStateException("the bound of a form is not kept");
        }
    }

    // ---- the whole

    public int knock() {
        knocks++;
        return knocks;
    }

    public int house(int what) throws IllegalArgumentException {
        if (what < 0 || what > 9) {
            throw new IllegalArgumentException("what is 0 to 9");
        }
        return tally(what);
    }

    public boolean isSound() {
        for (int n = 0; n < GRAPHS; n++) {
            for (int m = n + 1; m < GRAPHS; m++) {
                if (!areLooksNested(n, m) || !isSentenceRight(n, m)) {
                    return false;
                }
            }
            if (!isShrunkRight(n)) {
                return false;
            }
        }
        return true;
    }

    public long digest() {
        long d = 6810;
        for (int what = 0; what <= 9; what++) {
            d = d * 31 + tally(what);
        }
        for (int n = 0; n < GRAPHS; n++) {
            d = digestGraph(d, n);
        }
        for (int k = 0; k < NAMES; k++) {
            d = d * 31 + lengthOf(names[k], isTold(k));
        }
        for (int n = 0; n < GRAPHS; n++) {
            for (int m = n + 1; m < GRAPHS; m++) {
                d = digestPair(d, n, m);
            }
        }
        return d * 31 + (isSound() ? 1 : 0);
    }

    private int tally(int what) {
        switch (what) {
            case 0:
                return stackCount;
            case 1:
                return Integer.bitCount(toldNames);
            case 2:
                return Integer.bitCount(guardedNames);
            case 3:
                return sumOfGraphs(0);
            case 4:
                return sumOfGraphs(1);
            case 5:
                return deskCount;
            case 6:
                return knocks;
            default:
                return fresh(what - 7 + UNSEEN).alikePairs();
        }
    }

    private int sumOfGraphs(int what) {
        int sum = 0;
        for (int n = 0; n < GRAPHS; n++) {
            sum += countOf(graphs[n], what);
        }
        return sum;
    }

    /** A look whose bound is not kept, or of which that is so one below it, is passed over. */
    private boolean areLooksNested(int n, int m) {
        int below = alike(0, n * STATES, m * STATES);
        for (int look = REFUSALS; look <= STEPS; look++) {
            int here = alike(look, n * STATES, m * STATES);
            if (here == 1 && below == 0) {
                return false;
            }
            below = here;
        }
        return true;
    }

    private boolean isSentenceRight(int n, int m) {
        if (fresh(STEPS).firstApart(n * STATES, m * STATES) == NONE) {
            return true;
        }
        parting.prepare(graphs, n, m, fresh(STEPS), false);
        return parting.isRight(0, 0);
    }

    private boolean isShrunkRight(int n) {
        lone[0].shrink(graphs[n], fresh(STEPS), n * STATES);
        loneRounds.isStale = true;
        loneRounds.refresh(lone);
        return loneRounds.alikePairs() == 0 && lone[0].count == fresh(STEPS).unlikeOf(n * STATES);
    }

    private long digestGraph(long start, int n) {
        long d = start;
        Graph graph = graphs[n];
        for (int what = 0; what <= 5; what++) {
            d = d * 31 + countOf(graph, what);
        }
        for (int p = 0; p < graph.count; p++) {
            for (int what = 0; what <= 5; what++) {
                d = d * 31 + factOf(graph, p, what);
            }
            pen.clear();
            pen.putSteps(graph, p);
            d = d * 31 + pen.length();
            d = d * 31 + lengthOf(graph.terms[p], true);
        }
        for (int look = UNSEEN; look <= STEPS; look++) {
            putClasses(n, look);
            d = d * 31 + pen.length();
        }
        return d;
    }

    private int lengthOf(Row row, boolean isThere) {
        pen.clear();
        if (isThere) {
            pen.put(row);
        }
        return pen.length();
    }

    private long digestPair(long start, int n, int m) {
        long d = start;
        for (int look = UNSEEN; look <= STEPS; look++) {
            d = d * 31 + alike(look, n * STATES, m * STATES);
        }
        d = d * 31 + (trial.canBeGlad(graphs[n], graphs[m]) ? 1 : 0);
        return d * 31 + (trial.isSureToBeGlad(graphs[n], graphs[m]) ? 1 : 0);
    }

    // ---- what a call looks at first

    private static void checkName(int k) {
        if (k < 0 || k >= NAMES) {
            throw new IndexOutOfBoundsException("a name is 0 to 7");
        }
    }

    private static void checkAct(int act) {
        if (act < 0 || act >= ACTS) {
            throw new IndexOutOfBoundsException("an act is 0 to 8");
        }
    }

    private static void checkChannel(int channel) {
        if (channel < 0 || channel >= CHANNELS) {
            throw new IndexOutOfBoundsException("a channel is 0 to 3");
        }
    }

    private static void checkGraph(int n) {
        if (n < 0 || n >= GRAPHS) {
            throw new IndexOutOfBoundsException("a graph is 0 to 3");
        }
    }

    private void checkState(int n, int p) {
        checkGraph(n);
        if (p < 0 || p >= graphs[n].count) {
            throw new IndexOutOfBoundsException("no such state");
        }
    }

    private void checkTop() {
        if (stackCount < 1) {
            throw new IllegalStateException("the stack is empty");
        }
    }

    /** The codes of the signs that terms and sentences are made of. */
    private static final class Sign {
        static final int NIL = 0;
        static final int NAME = 1;
        static final int STEP = 9;
        static final int EITHER = 18;
        static final int BESIDE = 19;
        static final int HIDE = 20;
        static final int RENAME = 24;
        static final int TRUE = 40;
        static final int NOT = 41;
        static final int BOTH = 42;
        static final int SOME = 43;
        static final int ALL = 52;
        static final int WEAK = 61;
        static final int CODES = 70;
        static final String LETTERS = "tabcdABCD";

        static boolean isName(int code) {
            return code >= NAME && code < STEP;
        }

        static boolean isStep(int code) {
            return code >= STEP && code < EITHER;
        }

        static boolean isHide(int code) {
            return code >= HIDE && code < RENAME;
        }

        static boolean isRename(int code) {
            return code >= RENAME && code < TRUE;
        }

        static boolean isPair(int code) {
            return code == EITHER || code == BESIDE || code == BOTH;
        }

        static boolean isLeaf(int code) {
            return code < STEP || code == TRUE;
        }

        static boolean isModal(int code) {
            return code >= SOME && code < CODES;
        }

        static boolean isBracket(int code) {
            return code >= EITHER && code < TRUE || code == BOTH;
        }

        static int parts(int code) {
            return code < STEP || code == TRUE ? 0 : code == EITHER || code == BESIDE || code == BOTH ? 2 : 1;
        }

        static char letter(int act) {
            return act == 0 ? 't' : (char) (act > CHANNELS ? 'A' + act - CHANNELS - 1 : 'a' + act - 1);
        }

        static int channel(int act) {
            return act == 0 ? NONE : (act - 1) % CHANNELS;
        }

        static int partner(int act) {
            return act == 0 ? NONE : act > CHANNELS ? act - CHANNELS : act + CHANNELS;
        }

        /** What a text begins with tells all but the names and the bracketed ones apart. */
        static char first(int code) {
            return code == NIL ? '0' : code < STEP ? 'X' : code < EITHER ? letter(code - STEP) : '(';
        }

        static char middle(int code) {
            return code == EITHER ? '+' : code == BESIDE ? '|' : code == BOTH ? '&' : isHide(code) ? '-' : ':';
        }

        /** How many characters of a sentence's text are the sign's own; a term's length is never asked for. */
        static int width(int code) {
            return code < BOTH ? 1 : 3;
        }
    }

    /** A term or a sentence, sign by sign, each ahead of its parts. */
    private static final class Row {
        final byte[] codes;
        int size;

        Row(int room) {
            codes = new byte[room];
        }

        void set(int code) {
            if (codes.length > 0) {
                codes[0] = (byte) code;
                size = 1;
            }
        }

        void add(int code) {
            if (size < codes.length) {
                codes[size] = (byte) code;
                size++;
            }
        }

        void copy(Row other) {
            if (other.size <= codes.length) {
                System.arraycopy(other.codes, 0, codes, 0, other.size);
                size = other.size;
            }
        }

        void wrap(int code) {
            if (size < codes.length) {
                System.arraycopy(codes, 0, codes, 1, size);
                codes[0] = (byte) code;
                size++;
            }
        }

        void join(int code, Row other) {
            if (size + other.size + 1 <= codes.length) {
                System.arraycopy(other.codes, 0, codes, size, other.size);
                size += other.size;
                wrap(code);
            }
        }

        /** Reads an example: as a text, but each sign ahead of its parts and no brackets. */
        void read(String signs) {
            size = 0;
            for (int at = 0; at < signs.length(); at++) {
                char sign = signs.charAt(at);
                if (sign == 'X' && at + 1 < signs.length()) {
                    at++;
                    add(Sign.NAME + (signs.charAt(at) - '0'));
                } else if (sign == '-' && at + 1 < signs.length()) {
                    at++;
                    add(Sign.HIDE + (signs.charAt(at) - 'a'));
                } else if (Sign.LETTERS.indexOf(sign) >= 0) {
                    add(Sign.STEP + Sign.LETTERS.indexOf(sign));
                } else {
                    add(sign == '+' ? Sign.EITHER : sign == '|' ? Sign.BESIDE : Sign.NIL);
                }
            }
        }

        /** The names that do not stand behind a step. */
        int openNames() {
            int found = 0;
            int behind = 0;
            for (int at = 0; at < size; at++) {
                int code = codes[at];
                if (behind > 0) {
                    behind += Sign.parts(code) - 1;
                } else if (Sign.isStep(code)) {
                    behind = 1;
                } else if (Sign.isName(code)) {
                    found |= 1 << code - Sign.NAME;
                }
            }
            return found;
        }

        /** How many steps stand in one another in a sentence; parts stand behind, so it is read from the end. */
        int deepest() {
            int[] depths = new int[size + 1];
            int top = 0;
            for (int at = size - 1; at >= 0; at--) {
                int code = codes[at];
                if (Sign.isLeaf(code)) {
                    depths[top] = 0;
                    top++;
                } else if (Sign.isPair(code) && top >= 2) {
                    top--;
                    depths[top - 1] = Math.max(depths[top - 1], depths[top]);
                } else if (Sign.isModal(code) && top >= 1) {
                    depths[top - 1]++;
                }
            }
            return depths[0];
        }
    }

    /** Writes all texts into one builder, which is used again by each call. */
    private static final class Pen {
        private static final int SEEN = 128;
        private final StringBuilder out = new StringBuilder();
        private final int[] open = new int[TEXT_BOUND];

        void clear() {
            out.setLength(0);
        }

        int length() {
            return out.length();
        }

        String written() {
            return out.toString();
        }

        String textOf(Row row) {
            clear();
            put(row);
            return written();
        }

        void put(char sign) {
            out.append(sign);
        }

        void put(int number) {
            out.append(number);
        }

        void put(Row row) {
            int top = 0;
            for (int at = 0; at < row.size; at++) {
                int code = row.codes[at];
                begin(code);
                if (Sign.isBracket(code) && top < open.length) {
                    open[top] = code;
                    top++;
                } else if (Sign.isLeaf(code)) {
                    top = close(top);
                }
            }
        }

        void putSet(int set) {
            boolean isFirst = true;
            for (int p = 0; p < STATES && set >> p != 0; p++) {
                if ((set >> p & 1) == 1) {
                    if (!isFirst) {
                        out.append(' ');
                    }
                    out.append(p);
                    isFirst = false;
                }
            }
        }

        void putSteps(Graph graph, int p) {
            boolean isFirst = true;
            for (int act = 0; act < ACTS; act++) {
                int set = graph.go[p * ACTS + act];
                for (int q = 0; q < STATES && set >> q != 0; q++) {
                    if ((set >> q & 1) == 1) {
                        if (!isFirst) {
                            out.append(' ');
                        }
                        out.append(Sign.letter(act)).append(q);
                        isFirst = false;
                    }
                }
            }
        }

        private void begin(int code) {
            if (Sign.isBracket(code)) {
                out.append('(');
            } else if (Sign.isName(code)) {
                out.append('X').append(code - Sign.NAME);
            } else if (Sign.isStep(code)) {
                out.append(Sign.letter(code - Sign.STEP)).append('.');
            } else if (Sign.isModal(code)) {
                beginModal(code);
            } else {
                out.append(code == Sign.NIL ? '0' : code == Sign.TRUE ? 'T' : '!');
            }
        }

        private void beginModal(int code) {
            if (code < Sign.ALL) {
                out.append('<').append(Sign.letter(code - Sign.SOME)).append('>');
            } else if (code < Sign.WEAK) {
                out.append('[').append(Sign.letter(code - Sign.ALL)).append(']');
            } else {
                out.append('{').append(Sign.letter(code - Sign.WEAK)).append('}');
            }
        }

        /** A part is written to its end: what stands open around it goes on with its other part, or ends too. */
        private int close(int count) {
            int top = count;
            while (top > 0) {
                int code = open[top - 1];
                if (Sign.isPair(code)) {
                    out.append(Sign.middle(code));
                    open[top - 1] = code + SEEN;
                    return top;
                }
                end(code);
                top--;
            }
            return top;
        }

        private void end(int code) {
            if (Sign.isHide(code)) {
                out.append('-').append(Sign.letter(code - Sign.HIDE + 1));
            } else if (Sign.isRename(code)) {
                int pair = code - Sign.RENAME;
                out.append(':').append(Sign.letter(pair / CHANNELS + 1)).append(Sign.letter(pair % CHANNELS + 1));
            }
            out.append(')');
        }
    }

    /** Terms or sentences as nodes; the same text is the same node. */
    private static final class Nodes {
        private static final int HEADS = 2048;
        private static final int FIRST_ROOM = 512;
        private static final int MOST = 1 << 17;
        private final int[] heads = new int[HEADS];
        private final int[] stack = new int[TEXT_BOUND];
        private int[] next = new int[FIRST_ROOM];
        int[] code = new int[FIRST_ROOM];
        int[] left = new int[FIRST_ROOM];
        int[] right = new int[FIRST_ROOM];
        int[] size = new int[FIRST_ROOM];
        int[] width = new int[FIRST_ROOM];
        int[] listAt = new int[FIRST_ROOM];
        int[] listSize = new int[FIRST_ROOM];
        private int count;

        void clear() {
            Arrays.fill(heads, NONE);
            count = 0;
        }

        /** The node of a sign with its parts, NONE where there is none such; NONE too if there is no room. */
        int make(int sign, int first, int second) {
            int parts = Sign.parts(sign);
            if (parts > 0 && first < 0 || parts > 1 && second < 0) {
                return NONE;
            }
            int head = headOf(sign, first, second);
            int known = heads[head];
            for (int turn = 0; turn < count && known >= 0 && known < count; turn++) {
                if (code[known] == sign && left[known] == first && right[known] == second) {
                    return known;
                }
                known = next[known];
            }
            if (count >= code.length && !grow()) {
                return NONE;
            }
            int node = count;
            count++;
            code[node] = sign;
            left[node] = first;
            right[node] = second;
            size[node] = 1 + (parts > 0 ? size[first] : 0) + (parts > 1 ? size[second] : 0);
            width[node] = Sign.width(sign) + (parts > 0 ? width[first] : 0) + (parts > 1 ? width[second] : 0);
            listAt[node] = NONE;
            next[node] = heads[head];
            heads[head] = node;
            return node;
        }

        int load(Row row) {
            int top = 0;
            for (int at = row.size - 1; at >= 0; at--) {
                int sign = row.codes[at];
                int parts = Sign.parts(sign);
                if (top < parts || top - parts >= stack.length) {
                    return NONE;
                }
                int first = parts > 0 ? stack[top - 1] : NONE;
                int second = parts > 1 ? stack[top - 2] : NONE;
                top += 1 - parts;
                stack[top - 1] = make(sign, first, second);
            }
            return top == 1 ? stack[0] : NONE;
        }

        void unload(int root, Row row) {
            row.size = 0;
            stack[0] = root;
            int top = root >= 0 ? 1 : 0;
            for (int turn = 0; turn < TEXT_BOUND && top > 0; turn++) {
                top--;
                int node = stack[top];
                row.add(code[node]);
                if (right[node] >= 0 && top < stack.length) {
                    stack[top] = right[node];
                    top++;
                }
                if (left[node] >= 0 && top < stack.length) {
                    stack[top] = left[node];
                    top++;
                }
            }
        }

        /**
         * Compares the texts sign by sign. No text is the beginning of another one, so that the first part that is
         * not the same decides; each turn goes into parts, which are smaller.
         */
        int compare(int one, int other) {
            int x = one;
            int y = other;
            for (int turn = 0; turn < MOST && x != y && x >= 0 && y >= 0; turn++) {
                int order = Sign.first(code[x]) - Sign.first(code[y]);
                if (order != 0) {
                    return order;
                }
                boolean isBracket = Sign.isBracket(code[x]);
                if (!isBracket && code[x] != code[y]) {
                    return code[x] - code[y];
                }
                if (isBracket && left[x] == left[y]) {
                    order = Sign.middle(code[x]) - Sign.middle(code[y]);
                    if (order != 0 || code[x] != code[y]) {
                        return order != 0 ? order : code[x] - code[y];
                    }
                    x = right[x];
                    y = right[y];
                } else {
                    x = left[x];
                    y = left[y];
                }
            }
            return 0;
        }

        private int headOf(int sign, int first, int second) {
            int mix = (sign * 31 + first) * 0x9E3779B1 + second * 0x85EBCA6B;
            return (mix ^ mix >>> 16) & HEADS - 1;
        }

        private boolean grow() {
            int room = code.length * 2;
            if (room > MOST) {
                return false;
            }
            next = Arrays.copyOf(next, room);
            code = Arrays.copyOf(code, room);
            left = Arrays.copyOf(left, room);
            right = Arrays.copyOf(right, room);
            size = Arrays.copyOf(size, room);
            width = Arrays.copyOf(width, room);
            listAt = Arrays.copyOf(listAt, room);
            listSize = Arrays.copyOf(listSize, room);
            return true;
        }
    }

    /** Finds what terms can do, and makes graphs of that. */
    private static final class Unfolding {
        private static final int THINGS = 60;
        private static final int MOST = 1 << 17;
        private static final int TURNS = 1 << 20;
        private static final int FAULT = -2;
        private final Nodes nodes = new Nodes();
        private final int[] meanings = new int[NAMES];
        private final int[] open = new int[512];
        private final int[] sorted = new int[THINGS];
        private final int[] states = new int[STATES];
        private int count;
        /** The lists of what nodes can do, one behind the other: node * ACTS + act. */
        private int[] things = new int[1024];
        private int used;

        /** Fails, if a name is not in the guarded ones, or the bound is not kept; the graph is then of no use. */
        boolean build(Row start, Row[] names, int guarded, Graph into) {
            nodes.clear();
            used = 0;
            count = 0;
            for (int k = 0; k < NAMES; k++) {
                boolean isUsable = (guarded >> k & 1) == 1 && k < names.length;
                meanings[k] = isUsable ? nodes.load(names[k]) : NONE;
            }
            Arrays.fill(into.go, 0);
            if (numberOf(nodes.load(start)) < 0) {
                return false;
            }
            for (int p = 0; p < count && p < STATES; p++) {
                if (!unfold(states[p]) || !link(p, into)) {
                    return false;
                }
            }
            for (int p = 0; p < count; p++) {
                nodes.unload(states[p], into.terms[p]);
            }
            into.settle(count);
            return true;
        }

        /** The number of a state, which comes behind the others if it is not there; NONE if it may not. */
        private int numberOf(int node) {
            for (int p = 0; p < count; p++) {
                if (states[p] == node) {
                    return p;
                }
            }
            if (node < 0 || count >= STATES || nodes.size[node] > STATE_SIZE) {
                return NONE;
            }
            states[count] = node;
            count++;
            return count - 1;
        }

        private boolean link(int p, Graph into) {
            int node = states[p];
            int size = nodes.listSize[node];
            sort(nodes.listAt[node], size);
            for (int i = 0; i < size; i++) {
                int q = numberOf(sorted[i] / ACTS);
                if (q < 0) {
                    return false;
                }
                into.go[p * ACTS + sorted[i] % ACTS] |= 1 << q;
            }
            return true;
        }

        private void sort(int from, int size) {
            for (int i = 0; i < size && i < THINGS; i++) {
                int thing = things[from + i];
                int at = i;
                while (at > 0) {
                    int other = sorted[at - 1];
                    int order = thing % ACTS - other % ACTS;
                    if (order > 0 || order == 0 && nodes.compare(thing / ACTS, other / ACTS) >= 0) {
                        break;
                    }
                    sorted[at] = other;
                    at--;
                }
                sorted[at] = thing;
            }
        }

        /** Gives a node its list, and those first that its list is made of. */
        private boolean unfold(int root) {
            int top = 1;
            open[0] = root;
            for (int turn = 0; turn < TURNS && top > 0; turn++) {
                int node = open[top - 1];
                int ahead = nodes.listAt[node] >= 0 ? NONE : neededBy(node);
                if (ahead == FAULT || ahead >= 0 && top >= open.length) {
                    return false;
                }
                if (ahead >= 0) {
                    open[top] = ahead;
                    top++;
                } else if (nodes.listAt[node] < 0 && !gather(node)) {
                    return false;
                } else {
                    top--;
                }
            }
            return top == 0;
        }

        /** A node whose list has to be there first; NONE if all are; FAULT at a name that may not be come to. */
        private int neededBy(int node) {
            int code = nodes.code[node];
            if (Sign.isName(code)) {
                int meaning = meanings[code - Sign.NAME];
                return meaning < 0 ? FAULT : nodes.listAt[meaning] < 0 ? meaning : NONE;
            }
            if (code == Sign.NIL || Sign.isStep(code)) {
                return NONE;
            }
            if (nodes.listAt[nodes.left[node]] < 0) {
                return nodes.left[node];
            }
            boolean isRightNeeded = Sign.isPair(code) && nodes.listAt[nodes.right[node]] < 0;
            return isRightNeeded ? nodes.right[node] : NONE;
        }

        private boolean gather(int node) {
            int from = used;
            int code = nodes.code[node];
            boolean isKept;
            if (code == Sign.NIL) {
                isKept = true;
            } else if (Sign.isStep(code)) {
                isKept = put(from, code - Sign.STEP, nodes.left[node]);
            } else if (Sign.isName(code)) {
                isKept = gatherAround(from, code, meanings[code - Sign.NAME]);
            } else if (code == Sign.BESIDE) {
                isKept = gatherBeside(from, nodes.left[node], nodes.right[node]);
            } else {
                isKept = gatherAround(from, code, nodes.left[node])
                        && (code != Sign.EITHER || gatherAround(from, code, nodes.right[node]));
            }
            nodes.listAt[node] = from;
            nodes.listSize[node] = used - from;
            return isKept;
        }

        /** What one part can do, without the other one: as it is, or with a hide or a rename around it. */
        private boolean gatherAround(int from, int code, int part) {
            int first = nodes.listAt[part];
            int size = nodes.listSize[part];
            for (int i = 0; i < size; i++) {
                int act = things[first + i] % ACTS;
                int behind = things[first + i] / ACTS;
                if (Sign.isHide(code) && Sign.channel(act) == code - Sign.HIDE) {
                    continue;
                }
                if (Sign.isHide(code) || Sign.isRename(code)) {
                    act = renamed(act, code);
                    behind = nodes.make(code, behind, NONE);
                }
                if (!put(from, act, behind)) {
                    return false;
                }
            }
            return true;
        }

        private static int renamed(int act, int code) {
            int pair = code - Sign.RENAME;
            if (!Sign.isRename(code) || Sign.channel(act) != pair / CHANNELS) {
                return act;
            }
            return act - pair / CHANNELS + pair % CHANNELS;
        }

        private boolean gatherBeside(int from, int left, int right) {
            int leftAt = nodes.listAt[left];
            int leftSize = nodes.listSize[left];
            int rightAt = nodes.listAt[right];
            int rightSize = nodes.listSize[right];
            for (int i = 0; i < leftSize; i++) {
                int thing = things[leftAt + i];
                if (!put(from, thing % ACTS, nodes.make(Sign.BESIDE, thing / ACTS, right))) {
                    return false;
                }
            }
            for (int j = 0; j < rightSize; j++) {
                int thing = things[rightAt + j];
                if (!put(from, thing % ACTS, nodes.make(Sign.BESIDE, left, thing / ACTS))) {
                    return false;
                }
            }
            for (int i = 0; i < leftSize; i++) {
                int thing = things[leftAt + i];
                int partner = Sign.partner(thing % ACTS);
                for (int j = 0; j < rightSize && partner > 0; j++) {
                    int other = things[rightAt + j];
                    if (other % ACTS == partner
                            && !put(from, 0, nodes.make(Sign.BESIDE, thing / ACTS, other / ACTS))) {
                        return false;
                    }
                }
            }
            return true;
        }

        /** Puts a thing to the list that is being made, once; fails as one too many would stand there. */
        private boolean put(int from, int act, int behind) {
            if (behind < 0) {
                return false;
            }
            int thing = behind * ACTS + act;
            for (int i = from; i < used; i++) {
                if (things[i] == thing) {
                    return true;
                }
            }
            if (used - from >= THINGS || used >= things.length && !grow()) {
                return false;
            }
            things[used] = thing;
            used++;
            return true;
        }

        private boolean grow() {
            int room = things.length * 2;
            if (room > MOST) {
                return false;
            }
            things = Arrays.copyOf(things, room);
            return true;
        }
    }

    /** Up to 24 states with their steps; sets of states and of acts are kept as bits. */
    private static final class Graph {
        final Row[] terms = new Row[STATES];
        final int[] go = new int[STATES * ACTS];
        final int[] weak = new int[STATES * ACTS];
        final int[] can = new int[STATES];
        final int[] reach = new int[STATES];
        final int[] height = new int[STATES];
        private final int[] truths = new int[SENTENCE_SIZE + 1];
        private final int[] order = new int[STATES];
        int count;
        int still;
        int diverging;

        Graph() {
            for (int p = 0; p < STATES; p++) {
                terms[p] = new Row(STATE_SIZE);
            }
            terms[0].set(Sign.NIL);
            settle(1);
        }

        /** Finds all that the steps decide. */
        void settle(int states) {
            count = states;
            for (int p = 0; p < count; p++) {
                reach[p] = 1 << p;
                for (int act = 0; act < ACTS; act++) {
                    reach[p] |= go[p * ACTS + act];
                }
                weak[p * ACTS] = go[p * ACTS] | 1 << p;
            }
            for (int by = 0; by < count; by++) {
                for (int p = 0; p < count; p++) {
                    if ((reach[p] >> by & 1) == 1) {
                        reach[p] |= reach[by];
                    }
                    if ((weak[p * ACTS] >> by & 1) == 1) {
                        weak[p * ACTS] |= weak[by * ACTS];
                    }
                }
            }
            settleSeen();
            settleEnds();
            settleHeights();
        }

        private void settleSeen() {
            for (int p = 0; p < count; p++) {
                can[p] = 0;
                for (int act = 1; act < ACTS; act++) {
                    int set = behind(behind(weak[p * ACTS], act, go), 0, weak);
                    weak[p * ACTS + act] = set;
                    can[p] |= set != 0 ? 1 << act : 0;
                }
            }
        }

        private void settleEnds() {
            int again = 0;
            still = 0;
            diverging = 0;
            for (int p = 0; p < count; p++) {
                if ((behind(go[p * ACTS], 0, weak) >> p & 1) == 1) {
                    again |= 1 << p;
                }
                if (stepsFrom(p) == 0) {
                    still |= 1 << p;
                }
            }
            for (int p = 0; p < count; p++) {
                if ((weak[p * ACTS] & again) != 0) {
                    diverging |= 1 << p;
                }
            }
        }

        private void settleHeights() {
            Arrays.fill(height, NONE);
            for (int turn = 0; turn < count; turn++) {
                for (int p = 0; p < count; p++) {
                    if (height[p] == NONE) {
                        height[p] = heightOf(p);
                    }
                }
            }
        }

        private int heightOf(int p) {
            int highest = 0;
            for (int act = 0; act < ACTS; act++) {
                int set = go[p * ACTS + act];
                for (int q = 0; q < count && set >> q != 0; q++) {
                    if ((set >> q & 1) == 1) {
                        if (height[q] == NONE) {
                            return NONE;
                        }
                        highest = Math.max(highest, height[q] + 1);
                    }
                }
            }
            return highest;
        }

        /** All states to which a state of the set comes by the act. */
        int behind(int set, int act, int[] by) {
            int all = 0;
            for (int p = 0; p < count && set >> p != 0; p++) {
                if ((set >> p & 1) == 1) {
                    all |= by[p * ACTS + act];
                }
            }
            return all;
        }

        /** All states from which one comes to a state of the set by the act. */
        int ahead(int set, int act, int[] by) {
            int all = 0;
            for (int p = 0; p < count; p++) {
                if ((by[p * ACTS + act] & set) != 0) {
                    all |= 1 << p;
                }
            }
            return all;
        }

        int all() {
            return (1 << count) - 1;
        }

        int stepsFrom(int p) {
            int sum = 0;
            for (int act = 0; act < ACTS; act++) {
                sum += Integer.bitCount(go[p * ACTS + act]);
            }
            return sum;
        }

        int stepCount() {
            int sum = 0;
            for (int p = 0; p < count; p++) {
                sum += stepsFrom(p);
            }
            return sum;
        }

        int unseenCount() {
            int sum = 0;
            for (int p = 0; p < count; p++) {
                sum += Integer.bitCount(go[p * ACTS]);
            }
            return sum;
        }

        int actsUsed() {
            int set = 0;
            for (int act = 0; act < ACTS; act++) {
                if (behind(all(), act, go) != 0) {
                    set |= 1 << act;
                }
            }
            return set;
        }

        boolean isAlwaysAhead(int act) {
            int having = ahead(all(), act, go);
            for (int p = 0; p < count; p++) {
                if ((reach[p] & having) == 0) {
                    return false;
                }
            }
            return true;
        }

        /** The states of which a sentence is true; its parts stand behind their signs, so it is read from the end. */
        int whereTrue(Row sentence) {
            int top = 0;
            for (int at = sentence.size - 1; at >= 0; at--) {
                int code = sentence.codes[at];
                if (Sign.isLeaf(code) && top < truths.length) {
                    truths[top] = all();
                    top++;
                } else if (Sign.isPair(code) && top >= 2) {
                    top--;
                    truths[top - 1] &= truths[top];
                } else if (top >= 1) {
                    truths[top - 1] = whereTrueAround(code, truths[top - 1]);
                }
            }
            return truths[0];
        }

        private int whereTrueAround(int code, int set) {
            if (code >= Sign.WEAK) {
                return ahead(set, code - Sign.WEAK, weak);
            }
            if (code >= Sign.ALL) {
                return all() & ~ahead(all() & ~set, code - Sign.ALL, go);
            }
            return code >= Sign.SOME ? ahead(set, code - Sign.SOME, go) : all() & ~set;
        }

        /** Becomes the smallest one of a graph, whose states stand from a place on in what rounds by steps tell. */
        void shrink(Graph from, Rounds rounds, int first) {
            int found = 1;
            order[0] = 0;
            Arrays.fill(go, 0);
            for (int p = 0; p < found && p < STATES; p++) {
                for (int act = 0; act < ACTS; act++) {
                    int ahead = smallestOf(from, from.go[order[p] * ACTS + act], rounds, first);
                    for (int q = 0; q < from.count && ahead >> q != 0; q++) {
                        if ((ahead >> q & 1) == 1) {
                            int at = placeOf(q, found);
                            if (at == found && found < STATES) {
                                order[found] = q;
                                found++;
                            }
                            go[p * ACTS + act] |= 1 << at;
                        }
                    }
                }
            }
            for (int p = 0; p < found; p++) {
                terms[p].copy(from.terms[order[p]]);
            }
            settle(found);
        }

        /** For each state of a set, the smallest one that is alike with it. */
        private static int smallestOf(Graph from, int set, Rounds rounds, int first) {
            int smallest = 0;
            for (int q = 0; q < from.count && set >> q != 0; q++) {
                if ((set >> q & 1) == 1) {
                    smallest |= 1 << rounds.firstAlike(first, first + q) - first;
                }
            }
            return smallest;
        }

        private int placeOf(int q, int found) {
            for (int at = 0; at < found; at++) {
                if (order[at] == q) {
                    return at;
                }
            }
            return found;
        }
    }

    /** Who is alike with whom, round by round, of all states of some graphs; a state's slot is graph * 24 + state. */
    private static final class Rounds {
        private final int look;
        private final int slots;
        /** Round by round, for each slot the smallest slot that is alike with it. */
        private final byte[] past;
        private final long[] low;
        private final long[] high;
        private int last;
        private Graph[] graphs = new Graph[0];
        boolean isStale = true;

        Rounds(int look, int graphCount) {
            this.look = look;
            slots = graphCount * STATES;
            past = new byte[(slots + 1) * slots];
            low = new long[slots * ACTS];
            high = new long[slots * ACTS];
        }

        /** Goes through the rounds again, if a graph was changed. */
        void refresh(Graph[] now) {
            if (!isStale || now.length * STATES != slots) {
                return;
            }
            graphs = now;
            for (int slot = 0; slot < slots; slot++) {
                past[slot] = (byte) (isState(slot) ? 0 : NONE);
            }
            last = 0;
            for (int turn = 1; turn < slots; turn++) {
                Arrays.fill(low, 0);
                Arrays.fill(high, 0);
                for (int slot = 0; slot < slots; slot++) {
                    if (look == BRANCHES) {
                        gatherBranches(slot);
                    } else {
                        gather(slot);
                    }
                }
                if (!split()) {
                    break;
                }
                last = turn;
            }
            isStale = false;
        }

        private boolean isState(int slot) {
            return slot % STATES < graphs[slot / STATES].count;
        }

        /** Of the graph whose slots begin at a place, all states that are not alike with a slot at a round. */
        int apartFrom(int turn, int slot, int first) {
            int apart = 0;
            for (int q = 0; q < STATES; q++) {
                if (past[turn * slots + slot] != past[turn * slots + first + q]) {
                    apart |= 1 << q;
                }
            }
            return apart;
        }

        int firstApart(int slot, int other) {
            if (past[last * slots + slot] == past[last * slots + other]) {
                return NONE;
            }
            for (int turn = 1; turn < last; turn++) {
                if (past[turn * slots + slot] != past[turn * slots + other]) {
                    return turn;
                }
            }
            return last;
        }

        /** The first slot, from a place on, that is alike with a slot. */
        int firstAlike(int from, int slot) {
            for (int other = from; other < slot; other++) {
                if (past[last * slots + other] == past[last * slots + slot]) {
                    return other;
                }
            }
            return slot;
        }

        int alikePairs() {
            int pairs = 0;
            for (int slot = 0; slot < slots; slot++) {
                for (int other = 0; other < slot && isState(slot); other++) {
                    if (past[last * slots + slot] == past[last * slots + other]) {
                        pairs++;
                    }
                }
            }
            return pairs;
        }

        /** How many unlike states the graph has whose slots begin at a place. */
        int unlikeOf(int first) {
            int unlike = 0;
            for (int slot = first; slot < first + STATES && slot < slots; slot++) {
                if (isState(slot) && firstAlike(first, slot) == slot) {
                    unlike++;
                }
            }
            return unlike;
        }

        private void gather(int slot) {
            Graph graph = graphs[slot / STATES];
            int p = slot % STATES;
            if (p >= graph.count) {
                return;
            }
            int[] by = look == UNSEEN ? graph.weak : graph.go;
            for (int act = 0; act < ACTS; act++) {
                note(slot, act, by[p * ACTS + act]);
            }
        }

        private void gatherBranches(int slot) {
            Graph graph = graphs[slot / STATES];
            int p = slot % STATES;
            if (p >= graph.count) {
                return;
            }
            int alike = alikeInGraph(slot);
            int near = 1 << p;
            for (int turn = 0; turn < graph.count; turn++) {
                near |= graph.behind(near, 0, graph.go) & alike;
            }
            note(slot, 0, graph.behind(near, 0, graph.go) & ~alike);
            for (int act = 1; act < ACTS; act++) {
                note(slot, act, graph.behind(near, act, graph.go));
            }
        }

        private int alikeInGraph(int slot) {
            int first = slot - slot % STATES;
            int alike = 0;
            for (int p = 0; p < STATES; p++) {
                if (past[last * slots + first + p] == past[last * slots + slot]) {
                    alike |= 1 << p;
                }
            }
            return alike;
        }

        /** Notes by which act one comes from a slot to whom, as of the round ahead. */
        private void note(int slot, int act, int set) {
            int first = slot - slot % STATES;
            for (int q = 0; q < STATES && set >> q != 0; q++) {
                if ((set >> q & 1) == 1) {
                    int whom = past[last * slots + first + q];
                    if (whom < 64) {
                        low[slot * ACTS + act] |= 1L << whom;
                    } else {
                        high[slot * ACTS + act] |= 1L << whom - 64;
                    }
                }
            }
        }

        /** Writes the next round; whether it parts any that were alike. */
        private boolean split() {
            int from = last * slots;
            boolean isParting = false;
            for (int slot = 0; slot < slots; slot++) {
                int now = NONE;
                if (isState(slot)) {
                    now = past[from + slot];
                    while (now < slot && !isSame(from, slot, now)) {
                        now++;
                    }
                    isParting = isParting || now != past[from + slot];
                }
                past[from + slots + slot] = (byte) now;
            }
            return isParting;
        }

        private boolean isSame(int from, int slot, int other) {
            if (past[from + slot] != past[from + other]) {
                return false;
            }
            for (int act = 0; act < ACTS; act++) {
                if (low[slot * ACTS + act] != low[other * ACTS + act]
                        || high[slot * ACTS + act] != high[other * ACTS + act]) {
                    return false;
                }
            }
            return true;
        }
    }

    /** Looks at words and refusals: goes through the pairs of sets of states to which one comes by a word. */
    private static final class Words {
        private static final int PAIRS = 300;
        private static final int HEADS = 256;
        private static final int REFUSED_SETS = 512;
        private final int[] one = new int[PAIRS];
        private final int[] other = new int[PAIRS];
        private final int[] parent = new int[PAIRS];
        private final int[] by = new int[PAIRS];
        private final int[] next = new int[PAIRS];
        private final int[] heads = new int[HEADS];
        private final int[] path = new int[PAIRS];
        private int count;
        private int found;

        /** The place of the first pair that differs; NONE if there is none; OVER if the bound is not kept. */
        int search(boolean isRefusal, Graph first, int p, Graph second, int q) {
            Arrays.fill(heads, NONE);
            count = 0;
            put(first.weak[p * ACTS], second.weak[q * ACTS], NONE, 0);
            for (int at = 0; at < count && at < PAIRS; at++) {
                if (isUnlike(isRefusal, first, one[at], second, other[at])) {
                    found = at;
                    return at;
                }
                for (int act = 1; act < ACTS; act++) {
                    int here = first.behind(one[at], act, first.weak);
                    int there = second.behind(other[at], act, second.weak);
                    if ((here | there) != 0 && !put(here, there, at, act)) {
                        return OVER;
                    }
                }
            }
            return NONE;
        }

        void write(Pen pen) {
            int length = 0;
            for (int at = found; at > 0 && length < path.length; at = parent[at]) {
                path[length] = by[at];
                length++;
            }
            for (int i = length - 1; i >= 0; i--) {
                pen.put(Sign.letter(path[i]));
            }
        }

        /** The smallest set of seen acts that is refused on one side of the pair found alone. */
        int refusedByOne(Graph first, Graph second) {
            for (int set = 0; set < REFUSED_SETS; set += 2) {
                if (isRefused(first, one[found], set) != isRefused(second, other[found], set)) {
                    return set;
                }
            }
            return 0;
        }

        /** Puts a pair behind the row, if it is not there; fails as one too many would be put. */
        private boolean put(int here, int there, int from, int act) {
            int mix = here * 0x9E3779B1 + there * 0x85EBCA6B;
            int head = (mix ^ mix >>> 15) & HEADS - 1;
            int at = heads[head];
            for (int turn = 0; turn < count && at >= 0 && at < count; turn++) {
                if (one[at] == here && other[at] == there) {
                    return true;
                }
                at = next[at];
            }
            if (count >= PAIRS) {
                return false;
            }
            one[count] = here;
            other[count] = there;
            parent[count] = from;
            by[count] = act;
            next[count] = heads[head];
            heads[head] = count;
            count++;
            return true;
        }

        private static boolean isUnlike(boolean isRefusal, Graph first, int here, Graph second, int there) {
            if ((here == 0) != (there == 0)) {
                return true;
            }
            return isRefusal && !(isCovered(first, here, second, there) && isCovered(second, there, first, here));
        }

        /** Whether all that is refused here is refused there: by a state that can do no more. */
        private static boolean isCovered(Graph first, int here, Graph second, int there) {
            for (int p = 0; p < first.count && here >> p != 0; p++) {
                if ((here >> p & 1) == 1 && !isRefused(second, there, ~first.can[p])) {
                    return false;
                }
            }
            return true;
        }

        private static boolean isRefused(Graph graph, int states, int acts) {
            for (int p = 0; p < graph.count && states >> p != 0; p++) {
                if ((states >> p & 1) == 1 && (graph.can[p] & acts) == 0) {
                    return true;
                }
            }
            return false;
        }
    }

    /** The sentences and the game that part the states of two graphs. */
    private static final class Parting {
        private static final int SIDE = STATES * STATES;
        private static final int PAIRS = 2 * SIDE;
        private static final int UNKNOWN = -2;
        private final Nodes nodes = new Nodes();
        private final Row draft = new Row(TEXT_BOUND);
        private final int[] needed = new int[PAIRS];
        private final int[] acts = new int[PAIRS];
        private final int[] targets = new int[PAIRS];
        private final int[] turns = new int[PAIRS];
        private final int[] values = new int[PAIRS];
        private final int[] truths = new int[PAIRS];
        private final int[] truthsThere = new int[PAIRS];
        private final int[] parts = new int[STATES];
        private int count;
        /** These three stand in for those that each call sets, so that none is ever null. */
        private Graph here = new Graph();
        private Graph there = here;
        private Rounds rounds = new Rounds(STEPS, 1);
        private int hereAt;
        private int thereAt;
        private boolean isUnseen;

        /** Sets on which graphs, and by which rounds, the calls that follow look. */
        void prepare(Graph[] graphs, int n, int m, Rounds by, boolean isBlind) {
            if (n < 0 || n >= graphs.length || m < 0 || m >= graphs.length) {
                return;
            }
            here = graphs[n];
            there = graphs[m];
            hereAt = n * STATES;
            thereAt = m * STATES;
            rounds = by;
            isUnseen = isBlind;
            Arrays.fill(acts, UNKNOWN);
        }

        /** The round at which p here and q there are parted. */
        int apartAt(int p, int q) {
            return rounds.firstApart(hereAt + p, thereAt + q);
        }

        /** Writes the sentence that parts p here from q there; fails if it is too long. */
        boolean write(int p, int q, Pen pen) {
            int start = baseOf(0, p, q);
            gather(start);
            nodes.clear();
            for (int turn = 1; turn <= turns[start]; turn++) {
                for (int i = 0; i < count; i++) {
                    if (turns[needed[i]] == turn && !compose(needed[i])) {
                        return false;
                    }
                }
            }
            int node = valueFor(0, start);
            if (node < 0 || nodes.width[node] > TEXT_BOUND) {
                return false;
            }
            nodes.unload(node, draft);
            pen.put(draft);
            return true;
        }

        /** Whether the sentence is true of p alone, and as deep as the round tells, however long its text is. */
        boolean isRight(int p, int q) {
            int start = baseOf(0, p, q);
            gather(start);
            for (int turn = 1; turn <= turns[start]; turn++) {
                for (int i = 0; i < count; i++) {
                    if (turns[needed[i]] == turn) {
                        judge(needed[i]);
                    }
                }
            }
            boolean isTurned = start >= SIDE;
            boolean isTrueHere = (truths[start] >> p & 1) == 1;
            boolean isTrueThere = (truthsThere[start] >> q & 1) == 1;
            return isTrueHere != isTurned && isTrueThere == isTurned && values[start] == apartAt(p, q);
        }

        void play(int startHere, int startThere, Pen pen) {
            int p = startHere;
            int q = startThere;
            for (int turn = 0; turn < GRAPHS * STATES && apartAt(p, q) != NONE; turn++) {
                if (turn > 0) {
                    pen.put(' ');
                }
                int base = baseOf(0, p, q);
                int side = base / SIDE;
                int answer = latestParted(base);
                pen.put(side);
                pen.put(Sign.letter(acts[base]));
                pen.put(targets[base]);
                pen.put('>');
                if (answer == NONE) {
                    pen.put('-');
                    return;
                }
                pen.put(answer);
                p = side == 0 ? targets[base] : answer;
                q = side == 0 ? answer : targets[base];
            }
        }

        private int latestParted(int base) {
            int side = base / SIDE;
            int set = answersTo(base);
            int latest = NONE;
            int latestTurn = 0;
            for (int q = 0; q < STATES && set >> q != 0; q++) {
                if ((set >> q & 1) == 1) {
                    int turn = side == 0 ? apartAt(targets[base], q) : apartAt(q, targets[base]);
                    if (turn > latestTurn) {
                        latest = q;
                        latestTurn = turn;
                    }
                }
            }
            return latest;
        }

        private int behind(int side, int p, int act) {
            Graph graph = side == 0 ? here : there;
            if (act < 0 || p >= graph.count) {
                return 0;
            }
            return isUnseen ? graph.weak[p * ACTS + act] : graph.go[p * ACTS + act];
        }

        private int answersTo(int base) {
            return behind(1 - base / SIDE, base % STATES, acts[base]);
        }

        /**
         * The pair, with who attacks ahead, whose sentence begins with a step and parts p from q: that of both, or,
         * where p has no such act, that of q and p, to which a "not" belongs then.
         */
        private int baseOf(int side, int p, int q) {
            int pair = pairOf(side, p, q);
            if (acts[pair] == UNKNOWN) {
                findAttack(pair, side, p, q);
            }
            if (acts[pair] != NONE) {
                return pair;
            }
            int turned = pairOf(1 - side, q, p);
            if (acts[turned] == UNKNOWN) {
                findAttack(turned, 1 - side, q, p);
            }
            return turned;
        }

        private static int pairOf(int side, int p, int q) {
            return side * SIDE + p * STATES + q;
        }

        /** Finds the first act and step of p behind which it is parted ahead from all answers of q, or NONE. */
        private void findAttack(int pair, int side, int p, int q) {
            int first = side == 0 ? hereAt : thereAt;
            int second = side == 0 ? thereAt : hereAt;
            int turn = rounds.firstApart(first + p, second + q);
            turns[pair] = turn;
            acts[pair] = NONE;
            for (int act = 0; act < ACTS && turn > 0; act++) {
                int set = behind(side, p, act);
                int answers = behind(1 - side, q, act);
                for (int to = 0; to < STATES && set >> to != 0; to++) {
                    if ((set >> to & 1) == 1 && (answers & ~rounds.apartFrom(turn - 1, first + to, second)) == 0) {
                        acts[pair] = act;
                        targets[pair] = to;
                        return;
                    }
                }
            }
        }

        /** Gathers the pairs of whose sentences that of the first one is made, itself too. */
        private void gather(int start) {
            Arrays.fill(values, NONE);
            needed[0] = start;
            values[start] = 0;
            count = 1;
            for (int i = 0; i < count && i < PAIRS; i++) {
                int pair = needed[i];
                int answers = answersTo(pair);
                for (int q = 0; q < STATES && answers >> q != 0; q++) {
                    if ((answers >> q & 1) == 1) {
                        int base = baseOf(pair / SIDE, targets[pair], q);
                        if (values[base] == NONE && count < PAIRS) {
                            values[base] = 0;
                            needed[count] = base;
                            count++;
                        }
                    }
                }
            }
        }

        private int valueFor(int side, int base) {
            return base / SIDE == side ? values[base] : nodes.make(Sign.NOT, values[base], NONE);
        }

        /** Makes the sentence of a pair, whose answers' sentences are there. */
        private boolean compose(int pair) {
            int answers = answersTo(pair);
            int side = pair / SIDE;
            int found = 0;
            for (int q = 0; q < STATES && answers >> q != 0; q++) {
                if ((answers >> q & 1) == 1) {
                    parts[found] = valueFor(side, baseOf(side, targets[pair], q));
                    boolean isNew = true;
                    for (int i = 0; i < found; i++) {
                        isNew = isNew && parts[i] != parts[found];
                    }
                    found += isNew ? 1 : 0;
                }
            }
            int body = found == 0 ? nodes.make(Sign.TRUE, NONE, NONE) : parts[found - 1];
            for (int i = found - 2; i >= 0; i--) {
                body = nodes.make(Sign.BOTH, parts[i], body);
            }
            values[pair] = nodes.make((isUnseen ? Sign.WEAK : Sign.SOME) + acts[pair], body, NONE);
            return values[pair] >= 0 && nodes.width[values[pair]] <= TEXT_BOUND;
        }

        /** Finds of a pair's sentence where it is true in both graphs, and its depth. */
        private void judge(int pair) {
            int answers = answersTo(pair);
            int side = pair / SIDE;
            int deepest = 0;
            int bodyHere = here.all();
            int bodyThere = there.all();
            for (int q = 0; q < STATES && answers >> q != 0; q++) {
                if ((answers >> q & 1) == 1) {
                    int base = baseOf(side, targets[pair], q);
                    boolean isTurned = base / SIDE != side;
                    bodyHere &= isTurned ? ~truths[base] : truths[base];
                    bodyThere &= isTurned ? ~truthsThere[base] : truthsThere[base];
                    deepest = Math.max(deepest, values[base]);
                }
            }
            truths[pair] = here.ahead(bodyHere, acts[pair], isUnseen ? here.weak : here.go);
            truthsThere[pair] = there.ahead(bodyThere, acts[pair], isUnseen ? there.weak : there.go);
            values[pair] = deepest + 1;
        }
    }

    /** Tests of a graph by another one; sets of pairs are kept state by state as sets of the tester's states. */
    private static final class Trial {
        private final int[] met = new int[STATES];
        private final int[] sure = new int[STATES];

        boolean canBeGlad(Graph tested, Graph tester) {
            int glad = tester.ahead(tester.all(), TEST_ACT, tester.go);
            meetAll(tested, tester, 0);
            for (int x = 0; x < tested.count; x++) {
                if ((met[x] & glad) != 0) {
                    return true;
                }
            }
            return false;
        }

        /** Sure are the glad pairs, and those that go on, and to sure ones alone. */
        boolean isSureToBeGlad(Graph tested, Graph tester) {
            int glad = tester.ahead(tester.all(), TEST_ACT, tester.go);
            meetAll(tested, tester, glad);
            Arrays.fill(sure, glad);
            boolean isMore = true;
            for (int turn = 0; turn < STATES * STATES && isMore && (sure[0] & 1) == 0; turn++) {
                isMore = false;
                for (int x = 0; x < tested.count; x++) {
                    int more = surelyOn(tested, tester, x) & met[x] & ~sure[x];
                    sure[x] |= more;
                    isMore = isMore || more != 0;
                }
            }
            return (sure[0] & 1) == 1;
        }

        private int surelyOn(Graph tested, Graph tester, int x) {
            int found = 0;
            for (int y = 0; y < tester.count; y++) {
                if ((met[x] >> y & 1) == 1 && (sure[x] >> y & 1) == 0 && isSurelyOn(tested, tester, x, y)) {
                    found |= 1 << y;
                }
            }
            return found;
        }

        private boolean isSurelyOn(Graph tested, Graph tester, int x, int y) {
            int own = tester.go[y * ACTS];
            boolean isOn = own != 0;
            if ((own & ~sure[x]) != 0) {
                return false;
            }
            for (int to = 0; to < tested.count; to++) {
                int pairs = togetherTo(tested, tester, x, y, to);
                if ((pairs & ~sure[to]) != 0) {
                    return false;
                }
                isOn = isOn || pairs != 0;
            }
            return isOn;
        }

        /** The tester's states next to a state of the tested one, as that one goes on alone or both go together. */
        private static int togetherTo(Graph tested, Graph tester, int x, int y, int to) {
            int pairs = (tested.go[x * ACTS] >> to & 1) == 1 ? 1 << y : 0;
            for (int act = 1; act < ACTS; act++) {
                if ((tested.go[x * ACTS + act] >> to & 1) == 1) {
                    pairs |= tester.go[y * ACTS + Sign.partner(act)];
                }
            }
            return pairs;
        }

        /** Meets all pairs to which one can come, without going on from those where the tester is in the set. */
        private void meetAll(Graph tested, Graph tester, int ends) {
            Arrays.fill(met, 0);
            met[0] = 1;
            boolean isMore = true;
            for (int turn = 0; turn < STATES * STATES && isMore; turn++) {
                isMore = false;
                for (int x = 0; x < tested.count; x++) {
                    isMore = meetFrom(tested, tester, x, met[x] & ~ends) || isMore;
                }
            }
        }

        private boolean meetFrom(Graph tested, Graph tester, int x, int set) {
            boolean isMore = meet(x, tester.behind(set, 0, tester.go));
            for (int act = 0; act < ACTS; act++) {
                int next = act == 0 ? set : tester.behind(set, Sign.partner(act), tester.go);
                for (int to = 0; to < tested.count && next != 0; to++) {
                    if ((tested.go[x * ACTS + act] >> to & 1) == 1) {
                        isMore = meet(to, next) || isMore;
                    }
                }
            }
            return isMore;
        }

        private boolean meet(int x, int set) {
            boolean isMore = (set & ~met[x]) != 0;
            met[x] |= set;
            return isMore;
        }
    }

    /** The forms of a state and of all that it comes to, and their proof. */
    private static final class Forms {
        private static final String ACT_ORDER = "ABCDabcdt";
        /** Numbers of states, as their texts are sorted. */
        private static final int[] NUMBER_ORDER = {
            0, 1, 10, 11, 12, 13, 14, 15, 16, 17, 18, 19, 2, 20, 21, 22, 23, 3, 4, 5, 6, 7, 8, 9};
        private final char[] signs = new char[STATES * FORM_BOUND];
        private final int[] length = new int[STATES];
        private final boolean[] isSum = new boolean[STATES];
        /** The state ahead that has the same form, or the state itself. */
        private final int[] same = new int[STATES];
        private final int[] order = new int[STATES];
        private final int[] items = new int[STATES * ACTS];
        private int count;
        private int itemCount;
        private Graph graph = new Graph();

        /** Makes all forms, shortest rows first; fails if one is too long. */
        boolean make(Graph from, int p) {
            graph = from;
            count = 0;
            for (int high = 0; high <= graph.height[p]; high++) {
                for (int q = 0; q < graph.count; q++) {
                    if ((graph.reach[p] >> q & 1) == 1 && graph.height[q] == high) {
                        order[count] = q;
                        if (!makeOne(q)) {
                            return false;
                        }
                        count++;
                    }
                }
            }
            return true;
        }

        void putForm(int p, Pen pen) {
            for (int at = 0; at < length[p]; at++) {
                pen.put(signs[p * FORM_BOUND + at]);
            }
        }

        void putProof(Pen pen) {
            for (int i = 0; i < count; i++) {
                int q = order[i];
                if (same[q] == q) {
                    if (i > 0) {
                        pen.put(';');
                    }
                    pen.put(q);
                    pen.put('=');
                    putLine(q, pen);
                }
            }
        }

        private void putLine(int p, Pen pen) {
            boolean isFirst = true;
            for (int i = 0; i < ACT_ORDER.length(); i++) {
                char letter = ACT_ORDER.charAt(i);
                int targets = sameTargets(p, Sign.LETTERS.indexOf(letter));
                for (int j = 0; j < NUMBER_ORDER.length; j++) {
                    if ((targets >> NUMBER_ORDER[j] & 1) == 1) {
                        if (!isFirst) {
                            pen.put('+');
                        }
                        pen.put(letter);
                        pen.put(NUMBER_ORDER[j]);
                        isFirst = false;
                    }
                }
            }
            if (isFirst) {
                pen.put('0');
            }
        }

        private int sameTargets(int p, int act) {
            int targets = 0;
            for (int q = 0; q < graph.count && act >= 0; q++) {
                if ((graph.go[p * ACTS + act] >> q & 1) == 1) {
                    targets |= 1 << same[q];
                }
            }
            return targets;
        }

        private boolean makeOne(int p) {
            itemCount = 0;
            for (int act = 0; act < ACTS; act++) {
                int targets = sameTargets(p, act);
                for (int q = 0; q < graph.count && targets >> q != 0; q++) {
                    if ((targets >> q & 1) == 1) {
                        sortIn(q * ACTS + act);
                    }
                }
            }
            int written = joinItems(p * FORM_BOUND);
            if (written > FORM_BOUND) {
                return false;
            }
            length[p] = written;
            isSum[p] = itemCount > 1;
            same[p] = sameAhead(p);
            return true;
        }

        private void sortIn(int item) {
            int at = itemCount;
            while (at > 0 && compareItems(item, items[at - 1]) < 0) {
                items[at] = items[at - 1];
                at--;
            }
            items[at] = item;
            itemCount++;
        }

        private int compareItems(int one, int other) {
            int longest = Math.min(itemLength(one), itemLength(other));
            for (int at = 0; at < longest; at++) {
                int order = itemSign(one, at) - itemSign(other, at);
                if (order != 0) {
                    return order;
                }
            }
            return itemLength(one) - itemLength(other);
        }

        private int itemLength(int item) {
            int q = item / ACTS;
            return length[q] + (isSum[q] ? 4 : 2);
        }

        private char itemSign(int item, int at) {
            int q = item / ACTS;
            if (at < 2) {
                return at == 0 ? Sign.letter(item % ACTS) : '.';
            }
            int inner = at - (isSum[q] ? 3 : 2);
            return inner < 0 ? '(' : inner >= length[q] ? ')' : signs[q * FORM_BOUND + inner];
        }

        /** Writes as far as there is room, but counts all. */
        private int joinItems(int from) {
            int written = 0;
            for (int i = 0; i < itemCount; i++) {
                if (i > 0) {
                    written = writeSign(from, written, '+');
                }
                int width = itemLength(items[i]);
                for (int at = 0; at < width; at++) {
                    written = writeSign(from, written, itemSign(items[i], at));
                }
            }
            return itemCount == 0 ? writeSign(from, 0, '0') : written;
        }

        private int writeSign(int from, int written, char sign) {
            if (written < FORM_BOUND) {
                signs[from + written] = sign;
            }
            return written + 1;
        }

        private int sameAhead(int p) {
            for (int i = 0; i < count; i++) {
                int q = order[i];
                if (length[q] == length[p] && isSameForm(p, q)) {
                    return q;
                }
            }
            return p;
        }

        private boolean isSameForm(int p, int q) {
            for (int at = 0; at < length[p]; at++) {
                if (signs[p * FORM_BOUND + at] != signs[q * FORM_BOUND + at]) {
                    return false;
                }
            }
            return true;
        }
    }
}
