import java.util.ArrayList;
import java.util.List;
import java.util.NoSuchElementException;

/** Counts the answers that are not as due, and builds terms and sentences from their texts by calls. */
final class Due {
    static final Class<IndexOutOfBoundsException> INDEX = IndexOutOfBoundsException.class;
    static final Class<IllegalStateException> STATE = IllegalStateException.class;
    static final Class<IllegalArgumentException> ARGUMENT = IllegalArgumentException.class;
    static final Class<NoSuchElementException> ELEMENT = NoSuchElementException.class;
    private static final String LETTERS = "tabcdABCD";
    private static final List<String> WRONG = new ArrayList<>();
    private static int asked;

    interface Call {
        Object answer();
    }

    private Due() {
    }

    static void is(Object want, String what, Call call) {
        asked++;
        Object got;
        try {
            got = call.answer();
        } catch (RuntimeException e) {
            got = e;
        }
        if (!want.equals(got)) {
            WRONG.add(what + " answered " + got + ", due is " + want);
        }
    }

    /** The call has to throw just that, and to leave the whole house as it was. */
    static void fails(Class<? extends RuntimeException> want, Twotalk x, String what, Call call) {
        asked++;
        long before = x.digest();
        Object got;
        try {
            got = call.answer();
        } catch (RuntimeException e) {
            got = e.getClass();
        }
        if (got != want) {
            WRONG.add(what + " answered " + got + ", due is " + want);
        }
        if (x.digest() != before) {
            WRONG.add(what + " changed something, though it threw");
        }
    }

    static void end() {
        WRONG.forEach(System.out::println);
        System.out.println(asked + " answers, " + WRONG.size() + " not as due");
        System.exit(WRONG.isEmpty() && asked > 0 ? 0 : 1);
    }

    /** A house whose names are told by lines such as "0=a.X1". */
    static Twotalk house(String... lines) {
        Twotalk x = new Twotalk();
        told(x, lines);
        return x;
    }

    static void told(Twotalk x, String... lines) {
        for (String line : lines) {
            put(x, line.substring(2));
            x.tell(line.charAt(0) - '0');
        }
    }

    static int graph(Twotalk x, int n, String text) {
        put(x, text);
        return x.graph(n);
    }

    /** Puts a term on the stack. */
    static void put(Twotalk x, String text) {
        int end = putFrom(x, text, 0);
        if (end != text.length()) {
            throw new IllegalArgumentException(text);
        }
    }

    private static int putFrom(Twotalk x, String text, int from) {
        char sign = text.charAt(from);
        if (sign == '0') {
            x.nil();
            return from + 1;
        }
        if (sign == 'X') {
            x.name(text.charAt(from + 1) - '0');
            return from + 2;
        }
        if (sign != '(') {
            int end = putFrom(x, text, from + 2);
            x.step(LETTERS.indexOf(sign));
            return end;
        }
        int at = putFrom(x, text, from + 1);
        char kind = text.charAt(at);
        if (kind == '-') {
            x.hide(text.charAt(at + 1) - 'a');
            return at + 3;
        }
        if (kind == ':') {
            x.rename(text.charAt(at + 1) - 'a', text.charAt(at + 2) - 'a');
            return at + 4;
        }
        int end = putFrom(x, text, at + 1);
        if (kind == '+') {
            x.either();
        } else {
            x.beside();
        }
        return end + 1;
    }

    /** Puts a sentence on the desk. */
    static void say(Twotalk x, String text) {
        int end = sayFrom(x, text, 0);
        if (end != text.length()) {
            throw new IllegalArgumentException(text);
        }
    }

    private static int sayFrom(Twotalk x, String text, int from) {
        char sign = text.charAt(from);
        if (sign == 'T') {
            x.say(0, -1);
            return from + 1;
        }
        if (sign == '!') {
            int end = sayFrom(x, text, from + 1);
            x.say(1, -1);
            return end;
        }
        if (sign == '(') {
            int at = sayFrom(x, text, from + 1);
            int end = sayFrom(x, text, at + 1);
            x.say(2, -1);
            return end + 1;
        }
        int end = sayFrom(x, text, from + 3);
        x.say(sign == '<' ? 3 : sign == '[' ? 4 : 5, LETTERS.indexOf(text.charAt(from + 1)));
        return end;
    }
}
