/** Promises 23 to 28: image, undo, act, trace, taken, count. */
public final class ImageActTest {
    public static void main(String[] args) {
        images();
        imagesOfAll();
        whatNoImageKeeps();
        acts();
        traces();
        wrapping();
        taken();
        counts();
        Check.end();
    }

    private static void images() {
        LionRing x = new LionRing();
        Check.due("undo()", x.undo(), LionRing.STATE);
        Check.due("image() without BEASTS", x.image(), 0);
        x.beast(0, 0, 1, 0);
        x.beast(1, 0, 2, 0);
        Check.due("undo()", x.undo(), 0);
        Check.due("count(0)", x.count(0), 0);
        Check.due("beast(3, 4, 5, 6)", x.beast(3, 4, 5, 6), 0);
        Check.due("image()", x.image(), 1);
        x.beast(1, 0, 2, 0);
        Check.due("undo()", x.undo(), 1);
        Check.due("undo() again", x.undo(), 1);
        int[] all = {3, 4, 5, 5, 6};
        for (int what = 0; what < all.length; what++) {
            Check.due("of(0, " + what + ")", x.of(0, what), all[what]);
        }
    }

    private static LionRing scene() {
        LionRing x = new LionRing();
        x.tamer(20);
        x.beast(2, 9, 0, 3);
        x.beast(0, 0, 7, 4);
        x.set(0, 0, 30);
        x.enemies(0, 1, true);
        Check.ring(x, "yield 4 n=1");
        x.thunder(6);
        x.walk(21);
        x.walk(22);
        x.film(8);
        x.go(1);
        return x;
    }

    private static void imagesOfAll() {
        LionRing x = scene();
        LionRing as = scene();
        Check.due("image()", x.image(), 2);
        x.set(0, 0, 31);
        x.set(1, 1, 9);
        x.enemies(0, 1, false);
        Check.ring(x, "yield 7 n=0;loud 5");
        x.thunder(2);
        x.walk(-1);
        x.walk(1);
        x.film(-1);
        x.go(2);
        x.tamer(33);
        x.beast(5, 5, 35, 5);
        Check.due("undo()", x.undo(), 2);
        for (int beast = 0; beast < 2; beast++) {
            for (int what = 0; what < 8; what++) {
                Check.due("of(" + beast + ", " + what + ")", x.of(beast, what), as.of(beast, what));
            }
        }
        Check.due("count(0)", x.count(0), 2);
        Check.due("count(1): a RING is not undone", x.count(1), 2);
        Check.due("count(2)", x.count(2), 2);
        Check.due("count(3)", x.count(3), 1);
        Check.due("count(5)", x.count(5), 1);
        Check.due("count(7)", x.count(7), 20);
        Check.due("gone(12): the WALK", x.gone(12), as.gone(12));
        Check.due("kinds(1): the FILM", x.kinds(1), as.kinds(1));
        Check.due("calm(3, 1)", x.calm(3, 1), as.calm(3, 1));
        Check.due("thunder(0)", x.thunder(0), 6);
        Check.due("enemies(0, 1, true)", x.enemies(0, 1, true), 1);
        Check.due("of(1, 5): the RING of then holds", x.of(1, 5), 4);
        Check.due("the next RING", Check.ring(x, "yield 3 n=1"), 2);
        Check.due("of(1, 5): the newest holds", x.of(1, 5), 3);
    }

    private static void whatNoImageKeeps() {
        LionRing x = new LionRing();
        x.beast(0, 0, 1, 0);
        x.image();
        Check.feed(x, "yield");
        x.tape(1, 2, 3);
        x.act(0, 2, 5);
        Check.ring(x, " 5 n=0");
        Check.feed(x, "co");
        Check.due("of(0, 5)", x.of(0, 5), 5);
        x.undo();
        Check.due("of(0, 5): no RING held", x.of(0, 5), 0);
        Check.due("count(4): THE TEXT", x.count(4), 2);
        Check.due("count(1)", x.count(1), 1);
        Check.due("trace(0)", x.trace(0), 12);
        Check.due("read(1, 2)", x.read(1, 2), 0);
    }

    private static LionRing six(int kind) {
        LionRing x = new LionRing();
        x.beast(0, 0, 0, 0);
        x.beast(0, 0, 1, 0);
        x.beast(kind, 5, 2, 0);
        return x;
    }

    private static void acts() {
        int[][] due = {
            {9, 4, 8}, {9, 2, 4}, {23, 18, 36}, {9, 4, 6}, {-9, -9, -18}, {9, 2, 8}, {18, 21, 42},
        };
        for (int kind = 0; kind < 7; kind++) {
            LionRing x = six(kind);
            for (int act = 0; act < 3; act++) {
                Check.due("KIND " + kind + ": act(2, " + act + ", 7)", x.act(2, act, 7), due[kind][act]);
            }
        }
    }

    private static String trace(LionRing x) {
        StringBuilder trace = new StringBuilder();
        for (int i = 0; x.trace(i) != LionRing.NONE && i < 30; i++) {
            trace.append(i == 0 ? "" : " ").append(x.trace(i));
        }
        return trace.toString();
    }

    private static void traces() {
        String[][] due = {
            {"10", "11 10", "12 11 10"},
            {"10", "20 11 10", "12 20 11 10"},
            {"30 10", "11 30 10", "12 11 30 10"},
            {"10", "11 10", "40 12 11 10 11 10"},
            {"50 10", "51 20 11 50 10", "12 51 20 11 50 10"},
            {"10", "20 11 10", "60 12 20 11 10"},
            {"71 30 10", "70 11 71 30 10 30 10", "12 70 11 71 30 10 30 10"},
        };
        for (int kind = 0; kind < 7; kind++) {
            LionRing x = six(kind);
            for (int act = 0; act < 3; act++) {
                x.act(2, act, 7);
                Check.due("KIND " + kind + ": THE TRACE of " + act, trace(x), due[kind][act]);
                Check.due("KIND " + kind + ": count(6)", x.count(6), due[kind][act].split(" ").length);
            }
        }
        LionRing x = six(6);
        x.act(2, 2, 0);
        Check.due("trace(-1)", x.trace(-1), LionRing.NONE);
        Check.due("trace(7)", x.trace(7), 10);
        Check.due("trace(8)", x.trace(8), LionRing.NONE);
        Check.due("trace(MAX)", x.trace(Integer.MAX_VALUE), LionRing.NONE);
        Check.due("act(3, 0, 1)", x.act(3, 0, 1), 0);
        Check.due("trace(0): no TRACE then", x.trace(0), LionRing.NONE);
        Check.due("count(6)", x.count(6), 0);
        x.act(2, 0, 0);
        Check.due("act(2, 3, 1)", x.act(2, 3, 1), 0);
        Check.due("count(6)", x.count(6), 0);
        Check.due("act(2, -1, 1)", x.act(2, -1, 1), 0);
        Check.due("act(-1, 0, 1)", x.act(-1, 0, 1), 0);
    }

    private static void wrapping() {
        int most = Integer.MAX_VALUE;
        Check.due("MOVE wraps", six(0).act(2, 0, most), Integer.MIN_VALUE + 1);
        Check.due("MOVE tells", six(0).act(2, 2, most), (most - 3) * 2);
        Check.due("COMING wraps", six(2).act(2, 0, most), most * 3 + 2);
        Check.due("CORNERED wraps", six(4).act(2, 0, most - 1), Integer.MIN_VALUE);
    }

    private static void taken() {
        String[] due = {"0......", "11.....", "2.2....", "3..3...", "44..4..", "55...5.", "6.6...6"};
        for (int kind = 0; kind < 7; kind++) {
            LionRing x = six(kind);
            for (int k = 0; k < 7; k++) {
                char is = due[kind].charAt(k);
                Check.due("KIND " + kind + ": taken(2, " + k + ")", x.taken(2, k), is == '.' ? -12 : is - '0');
            }
        }
        LionRing x = six(0);
        Check.due("taken(2, 7)", x.taken(2, 7), LionRing.BAD);
        Check.due("taken(2, -1)", x.taken(2, -1), LionRing.BAD);
        Check.due("taken(3, -1): BAD is named first", x.taken(3, -1), LionRing.BAD);
        Check.due("taken(3, 0)", x.taken(3, 0), -11);
        Check.due("taken(-1, 0)", x.taken(-1, 0), -11);
    }

    private static void counts() {
        LionRing x = scene();
        Check.feed(x, "abc");
        x.act(0, 0, 0);
        int[] due = {2, 1, 2, 1, 3, 1, 2, 20};
        for (int what = 0; what < due.length; what++) {
            Check.due("count(" + what + ")", x.count(what), due[what]);
        }
        Check.due("count(8)", x.count(8), LionRing.BAD);
        Check.due("count(-1)", x.count(-1), LionRing.BAD);
    }
}
