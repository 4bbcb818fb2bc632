import java.lang.reflect.InvocationTargetException;
import java.lang.reflect.Method;
import java.lang.reflect.Modifier;
import java.util.ArrayList;
import java.util.Arrays;
import java.util.Comparator;
import java.util.HashMap;
import java.util.List;
import java.util.Map;
import java.util.Random;
import java.util.TreeMap;

/** Random runs of calls, each asked of the class and of the oracle; all answers and exceptions have to be alike. */
public final class RandomRunsTest {
    private static final int CALLS = 500;
    private static final int[] ODD = {-1, Integer.MIN_VALUE, Integer.MAX_VALUE, 4, 8, 9, 10, 24, 100};

    private final Random random;
    private final Twotalk house = new Twotalk();
    private final Oracle oracle = new Oracle();
    private final List<String> calls = new ArrayList<>();
    private final Map<String, Method> methods;
    private final Map<String, Integer> tally;
    private boolean isWrong;

    private RandomRunsTest(long seed, Map<String, Method> methods, Map<String, Integer> tally) {
        random = new Random(seed);
        this.methods = methods;
        this.tally = tally;
    }

    public static void main(String[] args) {
        long first = args.length > 0 ? Long.parseLong(args[0]) : 1;
        long runs = args.length > 1 ? Long.parseLong(args[1]) : 400;
        Map<String, Method> methods = new HashMap<>();
        List<Method> all = new ArrayList<>(Arrays.asList(Twotalk.class.getDeclaredMethods()));
        all.sort(Comparator.comparing(Method::getName));
        for (Method method : all) {
            if (Modifier.isPublic(method.getModifiers())) {
                methods.put(method.getName(), method);
            }
        }
        Map<String, Integer> tally = new TreeMap<>();
        int wrong = 0;
        for (long seed = first; seed < first + runs && wrong < 5; seed++) {
            RandomRunsTest run = new RandomRunsTest(seed, methods, tally);
            run.go();
            if (run.isWrong) {
                wrong++;
                System.out.println("seed " + seed + ":\n  " + String.join("\n  ", run.calls));
            }
        }
        if (args.length > 2) {
            tally.forEach((kind, count) -> System.out.println(kind + " " + count));
        }
        System.out.println(wrong == 0 ? "all answers are as due" : "answers are not as due");
        System.exit(wrong == 0 ? 0 : 1);
    }

    private void go() {
        int style = random.nextInt(11);
        if (style == 10) {
            tellFloors();
        } else if (style >= 4) {
            tellMachine(style);
        }
        while (calls.size() < CALLS && !isWrong) {
            int kind = random.nextInt(20);
            if (style == 10 && kind < 8) {
                makeFloors();
            } else if (style >= 4 && kind < 8) {
                makeMachine(style);
            } else if (kind < 4) {
                tellSome(style);
            } else if (kind < 8) {
                makeGraph(style);
            } else if (kind == 8) {
                ask("example", random.nextInt(6) - (random.nextInt(20) == 0 ? 1 : 0));
            } else if (kind == 9) {
                ask("smallest", small(4), small(4));
            } else if (kind < 12) {
                saySome();
            } else if (kind == 12 && random.nextInt(3) == 0) {
                ask("digest");
            } else {
                for (int i = 0; i < 8; i++) {
                    askAny();
                }
            }
        }
        ask("digest");
    }

    private int small(int end) {
        return random.nextInt(60) == 0 ? ODD[random.nextInt(ODD.length)] : random.nextInt(end);
    }

    private void tellSome(int style) {
        build(1 + random.nextInt(style == 0 ? 5 : 10), style, true);
        ask("tell", small(8));
    }

    private void makeGraph(int style) {
        build(1 + random.nextInt(style == 3 ? 16 : 12), style, random.nextInt(3) > 0);
        ask("graph", small(4));
        if (random.nextInt(3) > 0) {
            dropRest();
        }
    }

    private void dropRest() {
        while (oracle.house(0) > 0 && !isWrong && calls.size() < CALLS) {
            ask("drop");
        }
    }

    /** Tells all names in one another, behind steps, so that their graphs are large and go round. */
    private void tellMachine(int style) {
        for (int k = 0; k < 8; k++) {
            machineTerm(style, k);
            ask("tell", k);
        }
    }

    /** Names on whose floors sentences double, with a fault here and there: for texts of some 400 signs. */
    private static final String[] FLOORS = {"(a.(a.b.0+a.d.0)+a.(a.b.0+a.c.0))", "(a.(a.c.0+a.d.0)+a.(a.b.0+a.c.0))",
        "(a.(a.c.0+a.d.0)+a.(a.b.0+a.d.0))", "(a.(a.X0+a.X2)+a.(a.X0+a.X1))", "(a.(a.X1+a.X2)+a.(a.X0+a.X1))",
        "(a.(a.X1+a.X2)+a.(a.X0+a.X2))", "(a.(a.X3+a.X5)+a.(a.X3+a.X4))", "(a.(a.X4+a.X5)+a.(a.X3+a.X4))"};

    private void tellFloors() {
        for (int k = 0; k < 6; k++) {
            askTerm(faulty(FLOORS[k], random.nextInt(8) == 0), 0);
            ask("tell", k);
        }
    }

    private void makeFloors() {
        int k = random.nextInt(3) == 0 ? 3 + random.nextInt(3) : 6 + random.nextInt(2);
        askTerm(faulty(FLOORS[k], random.nextInt(3) == 0), 0);
        ask("graph", random.nextInt(4));
        dropRest();
        for (int i = 0; i < 4; i++) {
            ask("sentence", random.nextInt(4), 0, random.nextInt(4), 0, random.nextBoolean());
        }
    }

    /** The text with another letter in one place, if it is to be faulty. */
    private String faulty(String text, boolean isFaulty) {
        StringBuilder changed = new StringBuilder(text);
        int at = random.nextInt(text.length());
        if (isFaulty && text.charAt(at) >= 'a' && text.charAt(at) <= 'd') {
            changed.setCharAt(at, "abcdA".charAt(random.nextInt(5)));
        } else if (isFaulty && text.charAt(at) == '.' && text.charAt(at + 1) != '(') {
            changed.insert(at + 1, "a.");
        }
        return changed.toString();
    }

    private int askTerm(String text, int from) {
        char sign = text.charAt(from);
        if (sign == '0') {
            ask("nil");
            return from + 1;
        }
        if (sign == 'X') {
            ask("name", text.charAt(from + 1) - '0');
            return from + 2;
        }
        if (sign == '(') {
            int at = askTerm(text, askTerm(text, from + 1) + 1);
            ask("either");
            return at + 1;
        }
        int at = askTerm(text, from + 2);
        ask("step", "tabcdABCD".indexOf(sign));
        return at;
    }

    /** A style of deep choices over few acts for many words, one without rounds for forms, and others. */
    private void machineTerm(int style, int k) {
        if (style == 8) {
            for (int i = 0; i < 2; i++) {
                for (int j = 0; j < 2; j++) {
                    ask("name", random.nextInt(8));
                    ask("step", 1 + j);
                }
                ask("either");
                ask("step", 1 + i);
                if (random.nextInt(4) == 0) {
                    ask("name", random.nextInt(8));
                    ask("step", 1 + i);
                    ask("either");
                }
            }
            ask("either");
        } else if (style == 9) {
            summands(style, Math.max(k, 1));
        } else {
            summands(style, 8);
        }
    }

    private void summands(int style, int names) {
        int count = style == 7 ? 3 + random.nextInt(3) : style == 8 ? 2 : 1 + random.nextInt(style == 9 ? 4 : 3);
        for (int i = 0; i < count; i++) {
            if (random.nextInt(12) == 0 || style == 9 && names == 1) {
                ask("nil");
            } else {
                ask("name", style == 9 ? Math.max(0, names - 1 - random.nextInt(3)) : random.nextInt(names));
            }
            int steps = style == 8 ? 1 : 1 + random.nextInt(style == 7 ? 1 : 2);
            for (int j = 0; j < steps; j++) {
                ask("step", machineAct(style));
            }
            if (i > 0) {
                ask("either");
            }
        }
    }

    private int machineAct(int style) {
        if (style == 5) {
            return random.nextInt(2) == 0 ? 0 : 1 + random.nextInt(4);
        }
        if (style == 9) {
            return random.nextInt(5) == 0 ? 2 : random.nextInt(8) == 0 ? 0 : 1;
        }
        boolean isShort = style == 4 || style == 8;
        return isShort ? 1 + random.nextInt(2) : style == 7 ? 1 + random.nextInt(3) : random.nextInt(5);
    }

    /** Tells one name anew at times, and makes a graph of one, or of two side by side. */
    private void makeMachine(int style) {
        if (random.nextInt(3) == 0) {
            int k = random.nextInt(8);
            machineTerm(style, k);
            ask("tell", k);
        }
        int kind = random.nextInt(5);
        ask("name", random.nextInt(8));
        if (kind > 2) {
            ask("name", random.nextInt(8));
            ask("beside");
            ask("hide", random.nextInt(4));
        }
        if (kind == 2) {
            ask("rename", random.nextInt(4), random.nextInt(4));
        }
        ask("graph", random.nextInt(4));
        dropRest();
    }

    /** Builds a term of about a size by calls. */
    private void build(int size, int style, boolean isNamed) {
        if (size <= 1) {
            if (isNamed && random.nextInt(3) > 0) {
                ask("name", small(style == 1 ? 3 : 8));
            } else {
                ask("nil");
            }
            return;
        }
        int kind = random.nextInt(style == 2 ? 9 : 12);
        if (kind < 5 || size == 2) {
            build(size - 1, style, isNamed);
            ask("step", random.nextInt(60) == 0 ? small(9) : random.nextInt(style == 1 ? 6 : 9));
        } else if (kind < 9) {
            int left = 1 + random.nextInt(size - 1);
            build(left, style, isNamed);
            build(size - left, style, isNamed);
            ask(kind < 7 ? "either" : "beside");
        } else if (kind < 11) {
            build(size - 1, style, isNamed);
            ask("hide", small(4));
        } else {
            build(size - 1, style, isNamed);
            ask("rename", small(4), small(4));
        }
    }

    private void saySome() {
        int turns = 1 + random.nextInt(5);
        for (int i = 0; i < turns; i++) {
            ask("say", random.nextInt(40) == 0 ? small(6) : new int[] {0, 0, 1, 2, 3, 3, 4, 5, 5}[random.nextInt(9)],
                    random.nextInt(30) == 0 ? ODD[random.nextInt(ODD.length)] : random.nextInt(9));
        }
    }

    private void askAny() {
        String[] plain = {"text", "meant", "isGuarded", "ofGraph", "ofState", "steps", "term", "which", "isEverAgain",
            "isAlike", "isAlike", "round", "word", "refusal", "sentence", "sentence", "game", "classes", "unsay",
            "said", "depth", "isTrue", "isTrue", "may", "must", "form", "proof", "knock", "house", "isSound", "drop"};
        String call = plain[random.nextInt(plain.length)];
        switch (call) {
            case "text" -> ask(call, small(3));
            case "meant", "isGuarded" -> ask(call, small(8));
            case "ofGraph" -> ask(call, small(4), small(6));
            case "which" -> ask(call, small(4), random.nextBoolean());
            case "isEverAgain" -> ask(call, small(4), small(9));
            case "classes" -> ask(call, small(4), random.nextInt(30) == 0 ? small(2) : 2 + random.nextInt(3));
            case "may", "must" -> ask(call, small(4), small(4));
            case "house" -> ask(call, small(10));
            case "ofState", "steps", "term", "isTrue", "form", "proof" -> {
                int n = small(4);
                int p = state(n);
                if (call.equals("ofState")) {
                    ask(call, n, p, small(6));
                } else {
                    ask(call, n, p);
                }
            }
            case "isAlike", "round", "word", "refusal", "sentence", "game" -> askTwo(call);
            default -> ask(call);
        }
    }

    private void askTwo(String call) {
        int n = small(4);
        int m = small(4);
        int p = random.nextInt(3) == 0 ? 0 : state(n);
        int q = random.nextInt(3) == 0 ? 0 : state(m);
        if (random.nextInt(6) == 0) {
            m = n;
            q = p;
        }
        if (call.equals("isAlike")) {
            ask(call, small(5), n, p, m, q);
        } else if (call.equals("round") || call.equals("sentence")) {
            ask(call, n, p, m, q, random.nextBoolean());
        } else {
            ask(call, n, p, m, q);
        }
    }

    private int state(int n) {
        if (n < 0 || n > 3 || random.nextInt(60) == 0) {
            return small(4);
        }
        return random.nextInt(oracle.ofGraph(n, 0));
    }

    private void ask(String call, Object... values) {
        if (isWrong || calls.size() >= CALLS + 10) {
            return;
        }
        try {
            Method own = methods.get(call);
            Object due = answer(oracle, Oracle.class.getMethod(call, own.getParameterTypes()), values);
            Object got = answer(house, own, values);
            calls.add(call + Arrays.toString(values) + " = " + got);
            tally.merge(call + (got.toString().startsWith("throws.") ? " " + got : ""), 1, Integer::sum);
            if (!due.equals(got)) {
                isWrong = true;
                calls.add("due is " + due);
            }
        } catch (NoSuchMethodException e) {
            throw new IllegalStateException(e);
        }
    }

    private static Object answer(Object of, Method method, Object[] values) {
        try {
            return method.invoke(of, values);
        } catch (InvocationTargetException e) {
            return "throws." + e.getCause().getClass().getSimpleName();
        } catch (IllegalAccessException e) {
            throw new IllegalStateException(e);
        }
    }
}
