/** Asks what stands next to a bound: what is still allowed, what is refused, and that a refusal changes nothing. */
final class Edge {
    /** No range goes so far; some of these look like its numbers as a shift or a byte takes them. */
    private static final int[] FAR = {Integer.MIN_VALUE, Integer.MAX_VALUE, -32, 32, 64, -256, 256, 1 << 16};

    interface House {
        Twotalk made();
    }

    interface Asked {
        Object of(Twotalk x);
    }

    interface AskedBy {
        Object of(Twotalk x, int number);
    }

    private Edge() {
    }

    static void allowed(Object due, String what, House house, Asked call) {
        Due.is(due, what, () -> call.of(house.made()));
    }

    /** The call has to throw just that, and again, and to leave all as it is in a house of which it is not asked. */
    static void refused(Class<? extends RuntimeException> want, String what, House house, Asked call) {
        Twotalk asked = house.made();
        Due.is(want, what, () -> thrown(asked, call));
        Due.is(want, what + ", again", () -> thrown(asked, call));
        Due.is("", what + ", what is another thing behind it", () -> unlike(house.made(), asked));
    }

    /** All numbers from the first to the last are allowed, those next to them and far from them are refused. */
    static void range(Class<? extends RuntimeException> want, int first, int last, String what, House house,
            AskedBy call) {
        for (int number = first; number <= last; number++) {
            int asked = number;
            Due.is("none", what + " with " + number, () -> thrown(house.made(), x -> call.of(x, asked)));
        }
        outside(want, first, last, what, house, call);
    }

    /** As a range, but of the numbers that are not in it alone. */
    static void outside(Class<? extends RuntimeException> want, int first, int last, String what, House house,
            AskedBy call) {
        refused(want, what + " with " + (first - 1), house, x -> call.of(x, first - 1));
        refused(want, what + " with " + (last + 1), house, x -> call.of(x, last + 1));
        Twotalk x = house.made();
        for (int number : FAR) {
            int asked = number;
            Due.is(want, what + " with " + number, () -> thrown(x, y -> call.of(y, asked)));
        }
        Due.is("", what + ", what is another thing behind the far ones", () -> unlike(house.made(), x));
    }

    /** The first line in which the views of two houses are not the same. */
    private static String unlike(Twotalk left, Twotalk asked) {
        String[] due = View.of(left).split("\n");
        String[] got = View.of(asked).split("\n");
        for (int i = 0; i < due.length && i < got.length; i++) {
            if (!due[i].equals(got[i])) {
                return got[i] + " in the place of " + due[i];
            }
        }
        return due.length == got.length ? "" : got.length + " lines in the place of " + due.length;
    }

    private static Object thrown(Twotalk x, Asked call) {
        try {
            call.of(x);
            return "none";
        } catch (RuntimeException e) {
            return e.getClass();
        }
    }
}
