/** All that can be asked of a house, as one text; what stands on the stack and on the desk is taken away for it. */
final class View {
    private View() {
    }

    private interface Call {
        Object answer();
    }

    static String of(Twotalk x) {
        StringBuilder out = new StringBuilder();
        for (int what = 0; what <= 9; what++) {
            out.append(x.house(what)).append(' ');
        }
        out.append(x.digest()).append('\n');
        for (int k = 0; k < 8; k++) {
            out.append('X').append(k).append('=').append(x.meant(k)).append(' ').append(x.isGuarded(k)).append('\n');
        }
        for (int n = 0; n < 4; n++) {
            graph(x, n, out);
        }
        looks(x, out);
        takeAway(x, out);
        return out.append(x.knock()).toString();
    }

    private static void graph(Twotalk x, int n, StringBuilder out) {
        out.append("graph ").append(n).append('\n');
        int count = x.ofGraph(n, 0);
        for (int p = 0; p < count; p++) {
            out.append(p).append(' ').append(x.term(n, p)).append(" does ").append(x.steps(n, p)).append('\n');
        }
        out.append(x.which(n, false)).append(',').append(x.which(n, true)).append('\n');
    }

    private static void looks(Twotalk x, StringBuilder out) {
        for (int look = 0; look <= 4; look++) {
            int asked = look;
            out.append(answer(() -> x.isAlike(asked, 0, 0, 1, 0))).append(' ');
        }
        out.append(answer(() -> x.game(0, 0, 1, 0))).append('\n');
    }

    private static void takeAway(Twotalk x, StringBuilder out) {
        for (int left = x.house(0); left > 0; left--) {
            out.append(x.text(0)).append(" leaves ").append(x.drop()).append('\n');
        }
        for (int left = x.house(5); left > 0; left--) {
            out.append(x.said()).append(" leaves ").append(x.unsay()).append('\n');
        }
    }

    private static Object answer(Call call) {
        try {
            return call.answer();
        } catch (RuntimeException e) {
            return e.getClass().getSimpleName();
        }
    }
}
