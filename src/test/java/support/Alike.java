import java.util.function.Supplier;
import java.util.function.ToLongFunction;

/**
 * Two objects made alike: one is called, the other is not, and then both must answer alike.
 * So each object answers fewer calls than the document lets it.
 */
final class Alike {
    private Alike() {
    }

    /** A call that is refused: its answer, and that it changed nothing. */
    static void refused(Supplier<LionRing> made, String call, ToLongFunction<LionRing> done, long want) {
        LionRing called = made.get();
        Check.due(call, done.applyAsLong(called), want);
        same("behind " + call, called, made.get());
    }

    /** A call that only asks: its answer, twice, and that it changed nothing. */
    static void asked(Supplier<LionRing> made, String call, ToLongFunction<LionRing> done, long want) {
        LionRing called = made.get();
        Check.due(call, done.applyAsLong(called), want);
        Check.due(call + " once more", done.applyAsLong(called), want);
        same("behind " + call, called, made.get());
    }

    static void same(String when, LionRing x, LionRing y) {
        String[] got = all(x).split("\n");
        String[] want = all(y).split("\n");
        Check.due(when + ": as many answers", got.length, want.length);
        for (int i = 0; i < got.length && i < want.length; i++) {
            Check.due(when, got[i], want[i]);
        }
    }

    /** All that an object tells of itself, by some 210 calls; the last ones change it. */
    private static String all(LionRing x) {
        StringBuilder all = new StringBuilder();
        counts(x, all);
        beasts(x, all);
        scene(x, all);
        for (int tape = 0; tape < 6; tape++) {
            for (int i = 0; i < 4; i++) {
                line(all, "read " + tape + " " + i, x.read(tape, i));
            }
        }
        for (int i = 0; i < 9; i++) {
            line(all, "trace " + i, x.trace(i));
        }
        for (int a = 0; a < 6; a++) {
            for (int b = 0; b < a; b++) {
                line(all, "ENEMIES " + a + " " + b, x.enemies(a, b, false));
            }
        }
        line(all, "odds", x.thunder(0));
        line(all, "THE TEXT read", x.ring());
        for (int b = 0; b < 6; b++) {
            line(all, "YIELDS by THE TEXT of " + b, x.of(b, 5));
        }
        line(all, "undo", x.undo());
        counts(x, all);
        beasts(x, all);
        return all.toString();
    }

    private static void counts(LionRing x, StringBuilder all) {
        for (int what = 0; what < 8; what++) {
            line(all, "count " + what, x.count(what));
        }
    }

    private static void beasts(LionRing x, StringBuilder all) {
        for (int b = 0; b < 6; b++) {
            for (int what = 0; what < 8; what++) {
                line(all, "of " + b + " " + what, x.of(b, what));
            }
        }
    }

    private static void scene(LionRing x, StringBuilder all) {
        line(all, "safe", x.safe());
        line(all, "sit", x.sit());
        line(all, "calm", x.calm(3, 0));
        for (int what = -1; what < 6; what++) {
            line(all, "seats " + what, x.seats(what));
        }
        for (int what = 10; what < 13; what++) {
            line(all, "gone " + what, x.gone(what));
        }
        for (int b = 0; b < 6; b++) {
            line(all, "gone " + b, x.gone(b));
            line(all, "kinds " + b, x.kinds(b));
            line(all, "from " + b, x.from(b));
            line(all, "line " + b, x.line(b));
            line(all, "shortest " + b, x.shortest(b, -1));
        }
    }

    private static void line(StringBuilder all, String call, long answer) {
        all.append(call).append(": ").append(answer).append('\n');
    }
}
