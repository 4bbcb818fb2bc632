import com.sun.management.ThreadMXBean;
import java.lang.management.ManagementFactory;

/** All calls of one run live in one room: 512 of the dearest calls may not make more than a small part of it. */
public final class RoomTest {
    /** An element has one byte at least, so that so many bytes hold fewer elements than the room of 7.3 million. */
    private static final long ROOM = 6_000_000;
    private static final int CALLS = 480;

    private interface Call {
        Object on(Twotalk x);
    }

    public static void main(String[] args) {
        for (int turn = 0; turn < 2; turn++) {
            all();
        }
        Due.end();
    }

    private static void all() {
        run("new", x -> x.nil());
        run("digest", Twotalk::digest);
        run("isSound", Twotalk::isSound);
        run("digest behind an example", x -> x.example(x.knock() % 5) + x.digest());
        run("smallest", x -> x.smallest(0, 1) + x.house(9));
        run("sentence", x -> x.sentence(0, 0, 1, 0, false));
        run("sentence that is too long", x -> x.sentence(2, 0, 3, 0, true));
        run("game", x -> x.game(0, 0, 1, 0));
        run("refusal", x -> x.refusal(0, 0, 2, 0));
        run("proof", x -> x.proof(2, 0));
        run("form", x -> x.form(0, 3));
        run("classes", x -> x.classes(2, 3));
        run("terms", x -> x.term(0, 5) + x.meant(3) + x.steps(2, 0));
        run("graph", x -> x.name(3) + x.graph(3));
        run("graph that fails", x -> x.name(7) + x.graph(3));
        run("tell", x -> x.nil() + x.tell(7) + (x.isGuarded(7) ? 1 : 0));
        wide();
    }

    private static Twotalk floors() {
        Twotalk x = Due.house("0=(a.(a.b.0+a.d.0)+a.(a.b.0+a.c.0))", "1=(a.(a.c.0+a.d.0)+a.(a.b.0+a.c.0))",
                "2=(a.(a.c.0+a.d.0)+a.(a.b.0+a.d.0))", "3=(a.(a.X0+a.X2)+a.(a.X0+a.X1))",
                "4=(a.(a.X1+a.X2)+a.(a.X0+a.X1))", "5=(a.(a.X1+a.X2)+a.(a.X0+a.X2))");
        Due.graph(x, 0, "(a.X3+a.X5)");
        Due.graph(x, 1, "(a.X4+a.X5)");
        Due.graph(x, 2, "(a.(a.X3+a.X5)+a.(a.X3+a.X4))");
        Due.graph(x, 3, "(a.(a.X4+a.X5)+a.(a.X3+a.X4))");
        return x;
    }

    private static void run(String name, Call call) {
        long before = bytes();
        Twotalk x = floors();
        for (int i = 0; i < CALLS; i++) {
            try {
                call.on(x);
            } catch (RuntimeException e) {
                continue;
            }
        }
        long used = bytes() - before;
        Due.is(true, name + " makes " + used + " bytes", () -> used < ROOM);
    }

    /** Much that stands in one another, each of it with near to 60 things that it can do. */
    private static void wide() {
        long before = bytes();
        Twotalk x = new Twotalk();
        for (int k = 0; k < 7; k++) {
            String to = k == 0 ? "0" : "X" + (k - 1);
            Due.told(x, k + "=(((a." + to + "+b." + to + ")+(c." + to + "+d." + to + "))+((A." + to + "+B." + to
                    + ")+(C." + to + "+D." + to + ")))");
        }
        Due.told(x, "7=((((((((((X0+X1)+(X2+X3))+((X4+X5)+X6)):ab):ba):ab):ba):ab):ba):ab)");
        for (int i = 0; i < CALLS; i++) {
            x.name(7);
            for (int j = 0; j < 23; j++) {
                x.rename(j % 4, j / 4 % 4);
            }
            x.graph(0);
        }
        long used = bytes() - before;
        Due.is(true, "graph of wide terms makes " + used + " bytes", () -> used < ROOM);
    }

    private static long bytes() {
        return ((ThreadMXBean) ManagementFactory.getThreadMXBean()).getCurrentThreadAllocatedBytes();
    }
}
