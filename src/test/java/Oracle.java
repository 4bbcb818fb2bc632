import java.util.ArrayDeque;
import java.util.ArrayList;
import java.util.Collections;
import java.util.Deque;
import java.util.HashMap;
import java.util.HashSet;
import java.util.IdentityHashMap;
import java.util.LinkedHashSet;
import java.util.List;
import java.util.Map;
import java.util.NoSuchElementException;
import java.util.Set;
import java.util.TreeMap;
import java.util.TreeSet;

/**
 * A second house, written from the document alone and in its plainest words: trees, texts, sorted sets, recursion.
 * It shares no thought with the class under test, so that a random run that both answer alike says something.
 */
public final class Oracle {
    private static final String LETTERS = "tabcdABCD";

    /** A term or a sentence: its kind is the sign that its text has, "." for a step. */
    private record Tree(char kind, int a, int b, Tree left, Tree right) {
        int size() {
            return 1 + (left == null ? 0 : left.size()) + (right == null ? 0 : right.size());
        }

        String text() {
            return switch (kind) {
                case '0', 'T' -> "" + kind;
                case 'X' -> "X" + a;
                case '.' -> LETTERS.charAt(a) + "." + left.text();
                case '+', '|', '&' -> "(" + left.text() + kind + right.text() + ")";
                case '-' -> "(" + left.text() + "-" + LETTERS.charAt(a + 1) + ")";
                case ':' -> "(" + left.text() + ":" + LETTERS.charAt(a + 1) + LETTERS.charAt(b + 1) + ")";
                case '!' -> "!" + left.text();
                case '<' -> "<" + LETTERS.charAt(a) + ">" + left.text();
                case '[' -> "[" + LETTERS.charAt(a) + "]" + left.text();
                default -> "{" + LETTERS.charAt(a) + "}" + left.text();
            };
        }

        int depth() {
            int below = Math.max(left == null ? 0 : left.depth(), right == null ? 0 : right.depth());
            return "<[{".indexOf(kind) >= 0 ? below + 1 : below;
        }
    }

    private static Tree leaf(char kind) {
        return new Tree(kind, 0, 0, null, null);
    }

    private static final class Space {
        final List<String> texts = new ArrayList<>();
        /** Act and state of each step. */
        final List<List<int[]>> steps = new ArrayList<>();
        private final Map<Integer, TreeSet<Integer>> weakOnes = new HashMap<>();
        private final Map<Integer, TreeSet<Integer>> reaches = new HashMap<>();
        private final Map<Integer, Integer> cans = new HashMap<>();
        private final Map<Integer, Integer> heights = new HashMap<>();

        TreeSet<Integer> go(int p, int act) {
            TreeSet<Integer> found = new TreeSet<>();
            for (int[] step : steps.get(p)) {
                if (step[0] == act) {
                    found.add(step[1]);
                }
            }
            return found;
        }

        TreeSet<Integer> unseen(int p) {
            TreeSet<Integer> found = new TreeSet<>(Set.of(p));
            Deque<Integer> open = new ArrayDeque<>(found);
            while (!open.isEmpty()) {
                for (int q : go(open.pop(), 0)) {
                    if (found.add(q)) {
                        open.push(q);
                    }
                }
            }
            return found;
        }

        TreeSet<Integer> weak(int p, int act) {
            TreeSet<Integer> known = weakOnes.get(p * 9 + act);
            if (known != null) {
                return known;
            }
            TreeSet<Integer> found = new TreeSet<>();
            for (int q : unseen(p)) {
                if (act == 0) {
                    found.add(q);
                } else {
                    for (int r : go(q, act)) {
                        found.addAll(unseen(r));
                    }
                }
            }
            weakOnes.put(p * 9 + act, found);
            return found;
        }

        int can(int p) {
            if (cans.containsKey(p)) {
                return cans.get(p);
            }
            int set = 0;
            for (int act = 1; act <= 8; act++) {
                set += weak(p, act).isEmpty() ? 0 : 1 << act;
            }
            cans.put(p, set);
            return set;
        }

        boolean isDiverging(int p) {
            for (int q : unseen(p)) {
                for (int r : go(q, 0)) {
                    if (unseen(r).contains(q)) {
                        return true;
                    }
                }
            }
            return false;
        }

        TreeSet<Integer> reach(int p) {
            TreeSet<Integer> known = reaches.get(p);
            if (known != null) {
                return known;
            }
            TreeSet<Integer> found = new TreeSet<>(Set.of(p));
            Deque<Integer> open = new ArrayDeque<>(found);
            while (!open.isEmpty()) {
                for (int[] step : steps.get(open.pop())) {
                    if (found.add(step[1])) {
                        open.push(step[1]);
                    }
                }
            }
            reaches.put(p, found);
            return found;
        }

        int height(int p) {
            if (heights.containsKey(p)) {
                return heights.get(p);
            }
            int height = findHeight(p);
            heights.put(p, height);
            return height;
        }

        private int findHeight(int p) {
            for (int q : reach(p)) {
                for (int[] step : steps.get(q)) {
                    if (reach(step[1]).contains(q)) {
                        return -1;
                    }
                }
            }
            int longest = 0;
            for (int[] step : steps.get(p)) {
                longest = Math.max(longest, 1 + height(step[1]));
            }
            return longest;
        }
    }

    private final List<Tree> stack = new ArrayList<>();
    private final Tree[] told = new Tree[8];
    private final List<Tree> desk = new ArrayList<>();
    private final Space[] spaces = new Space[4];
    private final Map<Integer, List<Map<Integer, Integer>>> rounds = new HashMap<>();
    private int knocks;

    public Oracle() {
        for (int n = 0; n < 4; n++) {
            spaces[n] = spaceOf(leaf('0'));
        }
    }

    // ---- terms

    public int nil() {
        return push(leaf('0'));
    }

    public int name(int k) {
        in(k, 8);
        return push(new Tree('X', k, 0, null, null));
    }

    public int step(int act) {
        in(act, 9);
        return onTop('.', act, 0);
    }

    public int either() {
        return onTwo('+');
    }

    public int beside() {
        return onTwo('|');
    }

    public int hide(int channel) {
        in(channel, 4);
        return onTop('-', channel, 0);
    }

    public int rename(int from, int to) {
        in(from, 4);
        in(to, 4);
        return onTop(':', from, to);
    }

    public int drop() {
        state(!stack.isEmpty());
        stack.remove(stack.size() - 1);
        return stack.size();
    }

    public String text(int i) {
        in(i, stack.size());
        return stack.get(stack.size() - 1 - i).text();
    }

    public int tell(int k) {
        in(k, 8);
        state(!stack.isEmpty());
        int before = told[k] == null ? 0 : 1;
        told[k] = stack.remove(stack.size() - 1);
        return before;
    }

    public String meant(int k) {
        in(k, 8);
        return told[k] == null ? "" : told[k].text();
    }

    public boolean isGuarded(int k) {
        in(k, 8);
        if (told[k] == null || openFrom(k).contains(k)) {
            return false;
        }
        for (int j : openFrom(k)) {
            if (told[j] == null || openFrom(j).contains(j)) {
                return false;
            }
        }
        return true;
    }

    private int push(Tree tree) {
        state(stack.size() < 8);
        stack.add(tree);
        return stack.size();
    }

    private int onTop(char kind, int a, int b) {
        state(!stack.isEmpty());
        Tree tree = new Tree(kind, a, b, stack.get(stack.size() - 1), null);
        state(tree.size() <= 24);
        stack.set(stack.size() - 1, tree);
        return tree.size();
    }

    private int onTwo(char kind) {
        state(stack.size() >= 2);
        Tree tree = new Tree(kind, 0, 0, stack.get(stack.size() - 2), stack.get(stack.size() - 1));
        state(tree.size() <= 24);
        stack.remove(stack.size() - 1);
        stack.set(stack.size() - 1, tree);
        return tree.size();
    }

    /** All names to which one comes from a name's term by names that do not stand behind a step. */
    private TreeSet<Integer> openFrom(int k) {
        TreeSet<Integer> found = new TreeSet<>();
        Deque<Integer> open = new ArrayDeque<>(List.of(k));
        while (!open.isEmpty()) {
            Tree tree = told[open.pop()];
            for (int j : openIn(tree)) {
                if (found.add(j)) {
                    open.push(j);
                }
            }
        }
        return found;
    }

    private static Set<Integer> openIn(Tree tree) {
        Set<Integer> found = new TreeSet<>();
        if (tree == null || tree.kind == '.') {
            return found;
        }
        if (tree.kind == 'X') {
            found.add(tree.a);
        }
        found.addAll(openIn(tree.left));
        found.addAll(openIn(tree.right));
        return found;
    }

    // ---- graphs

    private TreeMap<String, Tree> things(Tree tree) {
        TreeMap<String, Tree> found = new TreeMap<>();
        switch (tree.kind) {
            case '.' -> put(found, tree.a, tree.left);
            case '+' -> {
                found.putAll(things(tree.left));
                found.putAll(things(tree.right));
            }
            case '|' -> besides(found, tree);
            case '-' -> things(tree.left).forEach((key, behind) -> {
                int act = key.charAt(0) - '0';
                if (act == 0 || (act - 1) % 4 != tree.a) {
                    put(found, act, new Tree('-', tree.a, 0, behind, null));
                }
            });
            case ':' -> things(tree.left).forEach((key, behind) -> {
                int act = key.charAt(0) - '0';
                boolean isFrom = act > 0 && (act - 1) % 4 == tree.a;
                int now = !isFrom ? act : act >= 5 ? 5 + tree.b : 1 + tree.b;
                put(found, now, new Tree(':', tree.a, tree.b, behind, null));
            });
            case 'X' -> {
                argument(isGuarded(tree.a));
                found.putAll(things(told[tree.a]));
            }
            default -> { }
        }
        argument(found.size() <= 60);
        return found;
    }

    private void besides(TreeMap<String, Tree> found, Tree tree) {
        TreeMap<String, Tree> left = things(tree.left);
        TreeMap<String, Tree> right = things(tree.right);
        left.forEach((key, behind) ->
                put(found, key.charAt(0) - '0', new Tree('|', 0, 0, behind, tree.right)));
        right.forEach((key, behind) ->
                put(found, key.charAt(0) - '0', new Tree('|', 0, 0, tree.left, behind)));
        left.forEach((key, behind) -> right.forEach((other, there) -> {
            int act = key.charAt(0) - '0';
            int partner = other.charAt(0) - '0';
            if (act > 0 && partner > 0 && Math.abs(act - partner) == 4) {
                put(found, 0, new Tree('|', 0, 0, behind, there));
            }
        }));
    }

    private static void put(TreeMap<String, Tree> found, int act, Tree behind) {
        found.put(act + behind.text(), behind);
    }

    private Space spaceOf(Tree start) {
        Space space = new Space();
        List<Tree> trees = new ArrayList<>(List.of(start));
        space.texts.add(start.text());
        for (int p = 0; p < trees.size(); p++) {
            TreeSet<Integer> steps = new TreeSet<>();
            for (Map.Entry<String, Tree> thing : things(trees.get(p)).entrySet()) {
                String text = thing.getKey().substring(1);
                if (!space.texts.contains(text)) {
                    argument(space.texts.size() < 24 && thing.getValue().size() <= 48);
                    space.texts.add(text);
                    trees.add(thing.getValue());
                }
                steps.add((thing.getKey().charAt(0) - '0') * 100 + space.texts.indexOf(text));
            }
            space.steps.add(stepList(steps));
        }
        return space;
    }

    private static List<int[]> stepList(TreeSet<Integer> steps) {
        List<int[]> list = new ArrayList<>();
        for (int step : steps) {
            list.add(new int[] {step / 100, step % 100});
        }
        return list;
    }

    public int graph(int n) {
        in(n, 4);
        state(!stack.isEmpty());
        Space space = spaceOf(stack.get(stack.size() - 1));
        stack.remove(stack.size() - 1);
        set(n, space);
        return space.texts.size();
    }

    private void set(int n, Space space) {
        spaces[n] = space;
        rounds.clear();
    }

    public int example(int k) {
        in(k, 5);
        String[][] all = {
            {"0=a.C.X0", "1=c.B.X1", "2=a.X3", "3=(a.X4+B.X2)", "4=B.X3", "((X0|X1)-c)", "X2"},
            {"0=A.c.B.X0", "1=A.d.B.X1", "2=a.b.X2", "3=(t.c.t.X3+t.d.t.X3)", "((((X0|X1)|X2)-a)-b)", "X3"},
            {"a.(b.0+c.0)", "(a.b.0+a.c.0)"},
            {"0=t.X0", "1=(t.X1+a.0)", "(X0|a.0)", "X1"},
            {"(a.0+(t.b.0+b.0))", "(a.0+t.b.0)"},
        };
        String[] lines = all[k];
        for (int i = 0; i < lines.length - 2; i++) {
            told[lines[i].charAt(0) - '0'] = new Reader(lines[i].substring(2)).whole();
        }
        set(0, spaceOf(new Reader(lines[lines.length - 2]).whole()));
        set(1, spaceOf(new Reader(lines[lines.length - 1]).whole()));
        return spaces[0].texts.size() + spaces[1].texts.size();
    }

    /** Reads a text of the document. */
    private static final class Reader {
        private final String text;
        private int at;

        Reader(String text) {
            this.text = text;
        }

        Tree whole() {
            char sign = text.charAt(at++);
            if (sign == '0') {
                return leaf('0');
            }
            if (sign == 'X') {
                return new Tree('X', text.charAt(at++) - '0', 0, null, null);
            }
            if (sign != '(') {
                at++;
                return new Tree('.', LETTERS.indexOf(sign), 0, whole(), null);
            }
            Tree left = whole();
            char kind = text.charAt(at++);
            Tree tree;
            if (kind == '-') {
                tree = new Tree('-', text.charAt(at++) - 'a', 0, left, null);
            } else if (kind == ':') {
                tree = new Tree(':', text.charAt(at) - 'a', text.charAt(at + 1) - 'a', left, null);
                at += 2;
            } else {
                tree = new Tree(kind, 0, 0, left, whole());
            }
            at++;
            return tree;
        }
    }

    public int smallest(int n, int to) {
        in(n, 4);
        in(to, 4);
        set(to, shrunk(n));
        return spaces[to].texts.size();
    }

    private Space shrunk(int n) {
        Space from = spaces[n];
        Space into = new Space();
        List<Integer> order = new ArrayList<>(List.of(0));
        for (int i = 0; i < order.size(); i++) {
            into.texts.add(from.texts.get(order.get(i)));
            TreeSet<Integer> steps = new TreeSet<>();
            for (int act = 0; act < 9; act++) {
                TreeSet<Integer> targets = new TreeSet<>();
                for (int q : from.go(order.get(i), act)) {
                    targets.add(smallestAlike(n, q, 4));
                }
                for (int q : targets) {
                    if (!order.contains(q)) {
                        order.add(q);
                    }
                    steps.add(act * 100 + order.indexOf(q));
                }
            }
            into.steps.add(stepList(steps));
        }
        return into;
    }

    private int smallestAlike(int n, int p, int look) {
        for (int q = 0; q < p; q++) {
            if (parted(n, q, n, p, look) < 0) {
                return q;
            }
        }
        return p;
    }

    public int ofGraph(int n, int what) {
        in(n, 4);
        argument(what >= 0 && what <= 5);
        Space space = spaces[n];
        int sum = 0;
        for (int p = 0; p < space.texts.size(); p++) {
            switch (what) {
                case 0 -> sum++;
                case 1 -> sum += space.steps.get(p).size();
                case 2 -> sum += space.steps.get(p).isEmpty() ? 1 : 0;
                case 3 -> sum += space.isDiverging(p) ? 1 : 0;
                case 5 -> sum += space.go(p, 0).size();
                default -> {
                    for (int[] step : space.steps.get(p)) {
                        sum |= 1 << step[0];
                    }
                }
            }
        }
        return sum;
    }

    public int ofState(int n, int p, int what) {
        place(n, p);
        argument(what >= 0 && what <= 5);
        Space space = spaces[n];
        return switch (what) {
            case 0 -> space.steps.get(p).size();
            case 1 -> space.can(p);
            case 2 -> space.isDiverging(p) ? 1 : 0;
            case 3 -> space.steps.get(p).isEmpty() ? 1 : 0;
            case 4 -> space.reach(p).size();
            default -> space.height(p);
        };
    }

    public String steps(int n, int p) {
        place(n, p);
        List<String> parts = new ArrayList<>();
        for (int[] step : spaces[n].steps.get(p)) {
            parts.add("" + LETTERS.charAt(step[0]) + step[1]);
        }
        return String.join(" ", parts);
    }

    public String term(int n, int p) {
        place(n, p);
        return spaces[n].texts.get(p);
    }

    public String which(int n, boolean isDiverging) {
        in(n, 4);
        List<String> parts = new ArrayList<>();
        for (int p = 0; p < spaces[n].texts.size(); p++) {
            if (isDiverging ? spaces[n].isDiverging(p) : spaces[n].steps.get(p).isEmpty()) {
                parts.add("" + p);
            }
        }
        return String.join(" ", parts);
    }

    public boolean isEverAgain(int n, int act) {
        in(n, 4);
        in(act, 9);
        for (int p = 0; p < spaces[n].texts.size(); p++) {
            boolean isThere = false;
            for (int q : spaces[n].reach(p)) {
                isThere |= !spaces[n].go(q, act).isEmpty();
            }
            if (!isThere) {
                return false;
            }
        }
        return true;
    }

    // ---- looks

    /** For each round who is alike with whom: the same number for those that are. */
    private List<Map<Integer, Integer>> roundsOf(int look) {
        return rounds.computeIfAbsent(look, this::findRounds);
    }

    private List<Map<Integer, Integer>> findRounds(int look) {
        Map<Integer, Integer> now = new TreeMap<>();
        for (int n = 0; n < 4; n++) {
            for (int p = 0; p < spaces[n].texts.size(); p++) {
                now.put(n * 100 + p, 0);
            }
        }
        List<Map<Integer, Integer>> all = new ArrayList<>(List.of(now));
        while (true) {
            Map<String, Integer> kinds = new HashMap<>();
            Map<Integer, Integer> next = new TreeMap<>();
            for (int place : now.keySet()) {
                String kind = now.get(place) + ":" + pairs(look, place, now);
                kinds.putIfAbsent(kind, kinds.size());
                next.put(place, kinds.get(kind));
            }
            if (new HashSet<>(next.values()).size() == new HashSet<>(now.values()).size()) {
                return all;
            }
            all.add(next);
            now = next;
        }
    }

    private Set<String> pairs(int look, int place, Map<Integer, Integer> now) {
        Space space = spaces[place / 100];
        int graph = place / 100 * 100;
        Set<String> found = new TreeSet<>();
        for (int act = 0; act < 9; act++) {
            TreeSet<Integer> targets = new TreeSet<>();
            if (look == 2) {
                targets = space.weak(place % 100, act);
            } else if (look == 4) {
                targets = space.go(place % 100, act);
            } else {
                for (int near : nearby(space, place, now)) {
                    targets.addAll(space.go(near, act));
                }
                if (act == 0) {
                    targets.removeIf(q -> now.get(graph + q).equals(now.get(place)));
                }
            }
            for (int q : targets) {
                found.add(act + "-" + now.get(graph + q));
            }
        }
        return found;
    }

    private static Set<Integer> nearby(Space space, int place, Map<Integer, Integer> now) {
        Set<Integer> near = new LinkedHashSet<>(Set.of(place % 100));
        Deque<Integer> open = new ArrayDeque<>(near);
        while (!open.isEmpty()) {
            for (int q : space.go(open.pop(), 0)) {
                if (now.get(place / 100 * 100 + q).equals(now.get(place)) && near.add(q)) {
                    open.push(q);
                }
            }
        }
        return near;
    }

    private boolean isAlikeAt(int round, int n, int p, int m, int q, int look) {
        Map<Integer, Integer> then = roundsOf(look).get(round);
        return then.get(n * 100 + p).equals(then.get(m * 100 + q));
    }

    private int parted(int n, int p, int m, int q, int look) {
        for (int round = 0; round < roundsOf(look).size(); round++) {
            if (!isAlikeAt(round, n, p, m, q, look)) {
                return round;
            }
        }
        return -1;
    }

    private record Both(TreeSet<Integer> one, TreeSet<Integer> other, String word) { }

    /** The pair that differs, or null if none does; the bound throws. */
    private Both search(boolean isRefusal, int n, int p, int m, int q) {
        List<Both> row = new ArrayList<>();
        Set<String> known = new HashSet<>();
        row.add(new Both(spaces[n].unseen(p), spaces[m].unseen(q), ""));
        known.add(row.get(0).one + "/" + row.get(0).other);
        for (int at = 0; at < row.size(); at++) {
            Both both = row.get(at);
            if (both.one.isEmpty() != both.other.isEmpty() || isRefusal && refusedAlone(n, m, both) >= 0) {
                return both;
            }
            for (int act = 1; act <= 8; act++) {
                TreeSet<Integer> one = new TreeSet<>();
                TreeSet<Integer> other = new TreeSet<>();
                for (int s : both.one) {
                    one.addAll(spaces[n].weak(s, act));
                }
                for (int s : both.other) {
                    other.addAll(spaces[m].weak(s, act));
                }
                if (!(one.isEmpty() && other.isEmpty()) && known.add(one + "/" + other)) {
                    state(row.size() < 300);
                    row.add(new Both(one, other, both.word + LETTERS.charAt(act)));
                }
            }
        }
        return null;
    }

    private int refusedAlone(int n, int m, Both both) {
        for (int set = 0; set <= 510; set += 2) {
            if (isRefused(spaces[n], both.one, set) != isRefused(spaces[m], both.other, set)) {
                return set;
            }
        }
        return -1;
    }

    private static boolean isRefused(Space space, Set<Integer> states, int set) {
        for (int s : states) {
            if ((space.can(s) & set) == 0) {
                return true;
            }
        }
        return false;
    }

    public boolean isAlike(int look, int n, int p, int m, int q) {
        place(n, p);
        place(m, q);
        argument(look >= 0 && look <= 4);
        return look < 2 ? search(look == 1, n, p, m, q) == null : parted(n, p, m, q, look) < 0;
    }

    public int round(int n, int p, int m, int q, boolean isUnseen) {
        place(n, p);
        place(m, q);
        return parted(n, p, m, q, isUnseen ? 2 : 4);
    }

    public String word(int n, int p, int m, int q) {
        place(n, p);
        place(m, q);
        Both both = search(false, n, p, m, q);
        element(both != null);
        return both.word;
    }

    public String refusal(int n, int p, int m, int q) {
        place(n, p);
        place(m, q);
        Both both = search(true, n, p, m, q);
        element(both != null);
        return both.word + ":" + refusedAlone(n, m, both);
    }

    private TreeSet<Integer> by(boolean isUnseen, int n, int p, int act) {
        return isUnseen ? spaces[n].weak(p, act) : spaces[n].go(p, act);
    }

    /** Act and state of the step by which the sentence begins; null if it begins with "not". */
    private int[] attack(int n, int p, int m, int q, boolean isUnseen) {
        int look = isUnseen ? 2 : 4;
        int round = parted(n, p, m, q, look);
        for (int act = 0; act < 9; act++) {
            for (int to : by(isUnseen, n, p, act)) {
                boolean isFit = true;
                for (int answer : by(isUnseen, m, q, act)) {
                    int ahead = parted(n, to, m, answer, look);
                    isFit &= ahead >= 0 && ahead < round;
                }
                if (isFit) {
                    return new int[] {act, to};
                }
            }
        }
        return null;
    }

    private Tree parting(int n, int p, int m, int q, boolean isUnseen, Map<String, Tree> known) {
        String key = n + " " + p + " " + m + " " + q;
        Tree tree = known.get(key);
        if (tree != null) {
            return tree;
        }
        int[] attack = attack(n, p, m, q, isUnseen);
        if (attack == null) {
            tree = new Tree('!', 0, 0, parting(m, q, n, p, isUnseen, known), null);
        } else {
            List<Tree> parts = new ArrayList<>();
            for (int answer : by(isUnseen, m, q, attack[0])) {
                Tree part = parting(n, attack[1], m, answer, isUnseen, known);
                if (!parts.contains(part)) {
                    parts.add(part);
                }
            }
            Tree body = parts.isEmpty() ? leaf('T') : parts.get(parts.size() - 1);
            for (int i = parts.size() - 2; i >= 0; i--) {
                body = new Tree('&', 0, 0, parts.get(i), body);
            }
            tree = new Tree(isUnseen ? '{' : '<', attack[0], 0, body, null);
        }
        known.put(key, tree);
        return tree;
    }

    public String sentence(int n, int p, int m, int q, boolean isUnseen) {
        place(n, p);
        place(m, q);
        element(parted(n, p, m, q, isUnseen ? 2 : 4) >= 0);
        Tree tree = parting(n, p, m, q, isUnseen, new HashMap<>());
        state(lengthOf(tree, new IdentityHashMap<>()) <= 400);
        return tree.text();
    }

    /** As long as the text is, but never much above 401: a text of which parts stand there often may be endless. */
    private static int lengthOf(Tree tree, IdentityHashMap<Tree, Integer> known) {
        if (tree == null) {
            return 0;
        }
        Integer before = known.get(tree);
        if (before != null) {
            return before;
        }
        int own = "T!".indexOf(tree.kind) >= 0 ? 1 : 3;
        int length = Math.min(401, own + lengthOf(tree.left, known) + lengthOf(tree.right, known));
        known.put(tree, length);
        return length;
    }

    public String game(int n, int p, int m, int q) {
        place(n, p);
        place(m, q);
        element(parted(n, p, m, q, 4) >= 0);
        List<String> parts = new ArrayList<>();
        int here = p;
        int there = q;
        while (parted(n, here, m, there, 4) >= 0) {
            int[] attack = attack(n, here, m, there, false);
            boolean isOfOther = attack == null;
            if (isOfOther) {
                attack = attack(m, there, n, here, false);
            }
            int latest = -1;
            int best = -1;
            for (int answer : isOfOther ? spaces[n].go(here, attack[0]) : spaces[m].go(there, attack[0])) {
                int round = isOfOther ? parted(n, answer, m, attack[1], 4) : parted(n, attack[1], m, answer, 4);
                if (round > latest) {
                    latest = round;
                    best = answer;
                }
            }
            String told = (isOfOther ? "1" : "0") + LETTERS.charAt(attack[0]) + attack[1] + ">";
            parts.add(told + (best < 0 ? "-" : "" + best));
            if (best < 0) {
                break;
            }
            here = isOfOther ? best : attack[1];
            there = isOfOther ? attack[1] : best;
        }
        return String.join(" ", parts);
    }

    public String classes(int n, int look) {
        in(n, 4);
        argument(look >= 2 && look <= 4);
        List<String> parts = new ArrayList<>();
        for (int p = 0; p < spaces[n].texts.size(); p++) {
            parts.add("" + smallestAlike(n, p, look));
        }
        return String.join(" ", parts);
    }

    // ---- sentences

    public int say(int what, int act) {
        argument(what >= 0 && what <= 5);
        if (what >= 3) {
            in(act, 9);
        }
        if (what == 0) {
            state(desk.size() < 6);
            desk.add(leaf('T'));
            return desk.size();
        }
        state(desk.size() >= (what == 2 ? 2 : 1));
        Tree last = desk.get(desk.size() - 1);
        Tree tree = what == 2 ? new Tree('&', 0, 0, desk.get(desk.size() - 2), last)
                : new Tree(" ! <[{".charAt(what), what == 1 ? 0 : act, 0, last, null);
        state(tree.size() <= 24);
        desk.remove(desk.size() - 1);
        if (what == 2) {
            desk.remove(desk.size() - 1);
        }
        desk.add(tree);
        return desk.size();
    }

    public int unsay() {
        element(!desk.isEmpty());
        desk.remove(desk.size() - 1);
        return desk.size();
    }

    public String said() {
        element(!desk.isEmpty());
        return desk.get(desk.size() - 1).text();
    }

    public int depth() {
        element(!desk.isEmpty());
        return desk.get(desk.size() - 1).depth();
    }

    public boolean isTrue(int n, int p) {
        place(n, p);
        element(!desk.isEmpty());
        return isTrueOf(desk.get(desk.size() - 1), n, p, new IdentityHashMap<>());
    }

    /** Remembers of each part where it was found true, as parts of a parting sentence may stand there often. */
    private boolean isTrueOf(Tree tree, int n, int p, IdentityHashMap<Tree, Map<Integer, Boolean>> known) {
        Map<Integer, Boolean> here = known.computeIfAbsent(tree, any -> new HashMap<>());
        Boolean before = here.get(n * 100 + p);
        if (before != null) {
            return before;
        }
        boolean isSo = switch (tree.kind) {
            case 'T' -> true;
            case '!' -> !isTrueOf(tree.left, n, p, known);
            case '&' -> isTrueOf(tree.left, n, p, known) && isTrueOf(tree.right, n, p, known);
            case '<' -> spaces[n].go(p, tree.a).stream().anyMatch(q -> isTrueOf(tree.left, n, q, known));
            case '[' -> spaces[n].go(p, tree.a).stream().allMatch(q -> isTrueOf(tree.left, n, q, known));
            default -> spaces[n].weak(p, tree.a).stream().anyMatch(q -> isTrueOf(tree.left, n, q, known));
        };
        here.put(n * 100 + p, isSo);
        return isSo;
    }

    private static int depthOf(Tree tree, IdentityHashMap<Tree, Integer> known) {
        if (tree == null) {
            return 0;
        }
        Integer before = known.get(tree);
        if (before != null) {
            return before;
        }
        int below = Math.max(depthOf(tree.left, known), depthOf(tree.right, known));
        int depth = "<[{".indexOf(tree.kind) >= 0 ? below + 1 : below;
        known.put(tree, depth);
        return depth;
    }

    // ---- tests, forms

    private List<Integer> onward(int n, int m, int pair) {
        int x = pair / 100;
        int y = pair % 100;
        List<Integer> next = new ArrayList<>();
        for (int[] step : spaces[n].steps.get(x)) {
            if (step[0] == 0) {
                next.add(step[1] * 100 + y);
            }
            for (int[] other : spaces[m].steps.get(y)) {
                if (step[0] > 0 && other[0] > 0 && Math.abs(step[0] - other[0]) == 4) {
                    next.add(step[1] * 100 + other[1]);
                }
            }
        }
        for (int[] other : spaces[m].steps.get(y)) {
            if (other[0] == 0) {
                next.add(x * 100 + other[1]);
            }
        }
        return next;
    }

    private boolean isGlad(int m, int pair) {
        return !spaces[m].go(pair % 100, 4).isEmpty();
    }

    public boolean may(int n, int m) {
        in(n, 4);
        in(m, 4);
        Set<Integer> met = new HashSet<>(Set.of(0));
        Deque<Integer> open = new ArrayDeque<>(met);
        while (!open.isEmpty()) {
            int pair = open.pop();
            if (isGlad(m, pair)) {
                return true;
            }
            for (int next : onward(n, m, pair)) {
                if (met.add(next)) {
                    open.push(next);
                }
            }
        }
        return false;
    }

    public boolean must(int n, int m) {
        in(n, 4);
        in(m, 4);
        return !canStaySad(n, m, 0, new HashSet<>(), new HashSet<>());
    }

    /** Whether a row without a glad pair goes on for ever, or ends: looked for along the row that is gone now. */
    private boolean canStaySad(int n, int m, int pair, Set<Integer> row, Set<Integer> done) {
        if (isGlad(m, pair) || done.contains(pair)) {
            return false;
        }
        List<Integer> next = onward(n, m, pair);
        if (next.isEmpty() || !row.add(pair)) {
            return true;
        }
        for (int other : next) {
            if (canStaySad(n, m, other, row, done)) {
                return true;
            }
        }
        row.remove(pair);
        done.add(pair);
        return false;
    }

    private String formOf(int n, int p) {
        return formOf(n, p, new HashMap<>());
    }

    private String formOf(int n, int p, Map<Integer, String> known) {
        if (known.containsKey(p)) {
            return known.get(p);
        }
        TreeSet<String> items = new TreeSet<>();
        for (int[] step : spaces[n].steps.get(p)) {
            String behind = formOf(n, step[1], known);
            items.add(LETTERS.charAt(step[0]) + "." + (hasSum(behind) ? "(" + behind + ")" : behind));
        }
        String form = items.isEmpty() ? "0" : String.join("+", items);
        state(form.length() <= 200);
        known.put(p, form);
        return form;
    }

    private static boolean hasSum(String form) {
        int open = 0;
        for (char sign : form.toCharArray()) {
            open += sign == '(' ? 1 : sign == ')' ? -1 : 0;
            if (sign == '+' && open == 0) {
                return true;
            }
        }
        return false;
    }

    public String form(int n, int p) {
        place(n, p);
        argument(spaces[n].height(p) >= 0);
        return formOf(n, p);
    }

    public String proof(int n, int p) {
        place(n, p);
        argument(spaces[n].height(p) >= 0);
        formOf(n, p);
        List<Integer> order = new ArrayList<>(spaces[n].reach(p));
        order.sort((x, y) -> spaces[n].height(x) != spaces[n].height(y)
                ? spaces[n].height(x) - spaces[n].height(y) : x - y);
        Map<String, Integer> firsts = new HashMap<>();
        List<String> lines = new ArrayList<>();
        for (int q : order) {
            if (firsts.putIfAbsent(formOf(n, q), q) == null) {
                TreeSet<String> items = new TreeSet<>();
                for (int[] step : spaces[n].steps.get(q)) {
                    items.add("" + LETTERS.charAt(step[0]) + firsts.get(formOf(n, step[1])));
                }
                lines.add(q + "=" + (items.isEmpty() ? "0" : String.join("+", items)));
            }
        }
        return String.join(";", lines);
    }

    // ---- the whole

    public int knock() {
        return ++knocks;
    }

    public int house(int what) {
        argument(what >= 0 && what <= 9);
        int sum = 0;
        switch (what) {
            case 0 -> sum = stack.size();
            case 1, 2 -> {
                for (int k = 0; k < 8; k++) {
                    sum += (what == 1 ? told[k] != null : isGuarded(k)) ? 1 : 0;
                }
            }
            case 3, 4 -> {
                for (int n = 0; n < 4; n++) {
                    sum += ofGraph(n, what - 3);
                }
            }
            case 5 -> sum = desk.size();
            case 6 -> sum = knocks;
            default -> {
                List<Map<Integer, Integer>> all = roundsOf(what - 5);
                List<Integer> last = new ArrayList<>(all.get(all.size() - 1).values());
                for (int i = 0; i < last.size(); i++) {
                    sum += Collections.frequency(last.subList(0, i), last.get(i));
                }
            }
        }
        return sum;
    }

    public boolean isSound() {
        for (int n = 0; n < 4; n++) {
            for (int m = n + 1; m < 4; m++) {
                if (!isPairSound(n, m)) {
                    return false;
                }
            }
            Space kept = spaces[n];
            Set<Integer> unlike = new HashSet<>();
            for (int p = 0; p < kept.texts.size(); p++) {
                unlike.add(smallestAlike(n, p, 4));
            }
            Space small = shrunk(n);
            set(n, small);
            boolean isDistinct = true;
            for (int p = 0; p < small.texts.size(); p++) {
                isDistinct &= smallestAlike(n, p, 4) == p;
            }
            set(n, kept);
            if (!isDistinct || unlike.size() != small.texts.size()) {
                return false;
            }
        }
        return true;
    }

    private boolean isPairSound(int n, int m) {
        for (int look = 1; look <= 4; look++) {
            try {
                if (isAlike(look, n, 0, m, 0) && !isAlike(look - 1, n, 0, m, 0)) {
                    return false;
                }
            } catch (IllegalStateException bound) {
                continue;
            }
        }
        int round = parted(n, 0, m, 0, 4);
        if (round < 0) {
            return true;
        }
        Tree tree = parting(n, 0, m, 0, false, new HashMap<>());
        IdentityHashMap<Tree, Map<Integer, Boolean>> known = new IdentityHashMap<>();
        return isTrueOf(tree, n, 0, known) && !isTrueOf(tree, m, 0, known)
                && depthOf(tree, new IdentityHashMap<>()) == round;
    }

    public long digest() {
        List<Integer> all = new ArrayList<>();
        for (int what = 0; what <= 9; what++) {
            all.add(house(what));
        }
        for (int n = 0; n < 4; n++) {
            for (int what = 0; what <= 5; what++) {
                all.add(ofGraph(n, what));
            }
            for (int p = 0; p < spaces[n].texts.size(); p++) {
                for (int what = 0; what <= 5; what++) {
                    all.add(ofState(n, p, what));
                }
                all.add(steps(n, p).length());
                all.add(term(n, p).length());
            }
            for (int look = 2; look <= 4; look++) {
                all.add(classes(n, look).length());
            }
        }
        for (int k = 0; k < 8; k++) {
            all.add(meant(k).length());
        }
        for (int n = 0; n < 4; n++) {
            for (int m = n + 1; m < 4; m++) {
                for (int look = 2; look <= 4; look++) {
                    all.add(isAlike(look, n, 0, m, 0) ? 1 : 0);
                }
                all.add(may(n, m) ? 1 : 0);
                all.add(must(n, m) ? 1 : 0);
            }
        }
        all.add(isSound() ? 1 : 0);
        long d = 6810;
        for (int v : all) {
            d = d * 31 + v;
        }
        return d;
    }

    // ---- what is thrown

    private void place(int n, int p) {
        in(n, 4);
        in(p, spaces[n].texts.size());
    }

    private static void in(int value, int end) {
        if (value < 0 || value >= end) {
            throw new IndexOutOfBoundsException();
        }
    }

    private static void state(boolean isFine) {
        if (!isFine) {
            throw new IllegalStateException();
        }
    }

    private static void argument(boolean isFine) {
        if (!isFine) {
            throw new IllegalArgumentException();
        }
    }

    private static void element(boolean isFine) {
        if (!isFine) {
            throw new NoSuchElementException();
        }
    }
}
