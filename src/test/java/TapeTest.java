/** Promises 22 and 29 to 32: judge, tape, item, read, shift. */
public final class TapeTest {
    private static final int NOTHING = -11, CAST = -12, PLACE = -13, SIZE = -14;

    public static void main(String[] args) {
        tapes();
        items();
        reads();
        shifts();
        judged();
        judgedLater();
        Check.end();
    }

    private static void tapes() {
        LionRing x = new LionRing();
        for (int t = 0; t < 6; t++) {
            Check.due("read(" + t + ", 0): nothing at first", x.read(t, 0), LionRing.NO);
            Check.due("item(" + t + ", 0, 1)", x.item(t, 0, 1), NOTHING);
        }
        Check.due("tape(-1, 0, 1)", x.tape(-1, 0, 1), LionRing.NONE);
        Check.due("tape(6, 9, 99)", x.tape(6, 9, 99), LionRing.NONE);
        Check.due("tape(0, 5, 1)", x.tape(0, 5, 1), LionRing.BAD);
        Check.due("tape(0, -2, 1)", x.tape(0, -2, 1), LionRing.BAD);
        Check.due("tape(0, 5, -1): BAD ahead of SIZE", x.tape(0, 5, -1), LionRing.BAD);
        Check.due("tape(0, 0, 61)", x.tape(0, 0, 61), LionRing.BAD);
        Check.due("tape(0, 0, -1)", x.tape(0, 0, -1), SIZE);
        Check.due("tape(0, 4, MIN)", x.tape(0, 4, Integer.MIN_VALUE), SIZE);
        Check.due("read(0, 0): nothing came of it", x.read(0, 0), LionRing.NO);
        Check.due("tape(0, 0, 60)", x.tape(0, 0, 60), 1);
        Check.due("read(0, 59)", x.read(0, 59), 0);
        Check.due("read(0, 60)", x.read(0, 60), LionRing.NO);
        x.item(0, 0, 8);
        x.item(0, 3, 7);
        x.item(0, 4, 9);
        Check.due("tape(0, 0, 61)", x.tape(0, 0, 61), LionRing.BAD);
        Check.due("read(0, 3): refusals change nothing", x.read(0, 3), 7);
        Check.due("tape(0, 0, 5)", x.tape(0, 0, 5), 1);
        for (int i = 0; i < 5; i++) {
            Check.due("read(0, " + i + "): all 0", x.read(0, i), 0);
        }
        Check.due("tape(0, -1, 61): n does not matter", x.tape(0, -1, 61), 1);
        Check.due("read(0, 0)", x.read(0, 0), LionRing.NO);
        Check.due("tape(0, -1, -9)", x.tape(0, -1, -9), 1);
        Check.due("tape(0, 3, 0)", x.tape(0, 3, 0), 1);
        Check.due("item(0, 0, 1): a row of none", x.item(0, 0, 1), PLACE);
        Check.due("read(0, 0)", x.read(0, 0), LionRing.NO);
    }

    private static void items() {
        long[] in = {0, 1, 2, 127, 128, 200, 255, 256, -1, 32768, 65535, 70000, 1L << 31, 1L << 32, Long.MIN_VALUE};
        LionRing x = new LionRing();
        for (int sort = 0; sort < 5; sort++) {
            x.tape(sort, sort, 2);
            for (long v : in) {
                Check.due("item(" + sort + ", 1, " + v + ")", x.item(sort, 1, v), 1);
                long[] due = {(byte) v, (short) v, (int) v, v, v == 0 ? 0 : 1};
                Check.due("read(" + sort + ", 1) of " + v, x.read(sort, 1), due[sort]);
            }
            Check.due("read(" + sort + ", 0)", x.read(sort, 0), 0);
        }
        Check.due("item(0, 2, 1)", x.item(0, 2, 1), PLACE);
        Check.due("item(0, -1, 1)", x.item(0, -1, 1), PLACE);
        Check.due("item(0, MAX, 1)", x.item(0, Integer.MAX_VALUE, 1), PLACE);
        Check.due("item(5, 0, 1)", x.item(5, 0, 1), NOTHING);
        Check.due("item(5, -1, 1): NOTHING is named first", x.item(5, -1, 1), NOTHING);
        Check.due("item(6, 0, 1)", x.item(6, 0, 1), LionRing.NONE);
        Check.due("item(-1, 0, 1)", x.item(-1, 0, 1), LionRing.NONE);
    }

    private static void reads() {
        LionRing x = new LionRing();
        x.tape(2, 3, 3);
        x.item(2, 2, -5);
        Check.due("read(2, 2)", x.read(2, 2), -5);
        Check.due("read(2, 3)", x.read(2, 3), LionRing.NO);
        Check.due("read(2, -1)", x.read(2, -1), LionRing.NO);
        Check.due("read(6, 0)", x.read(6, 0), LionRing.NO);
        Check.due("read(-1, 0)", x.read(-1, 0), LionRing.NO);
        Check.due("read(3, 0)", x.read(3, 0), LionRing.NO);
    }

    private static String row(LionRing x, int tape) {
        StringBuilder row = new StringBuilder();
        for (int i = 0; x.read(tape, i) != LionRing.NO; i++) {
            row.append(i == 0 ? "" : " ").append(x.read(tape, i));
        }
        return row.toString();
    }

    private static LionRing counting(int sort, int n) {
        LionRing x = new LionRing();
        x.tape(0, sort, n);
        for (int i = 0; i < n; i++) {
            x.item(0, i, i + 1);
        }
        return x;
    }

    private static void shifts() {
        LionRing x = counting(1, 5);
        x.tape(1, 1, 3);
        x.tape(2, 2, 5);
        Check.due("shift(0, 1, 1, 0, 3)", x.shift(0, 1, 1, 0, 3), 3);
        Check.due("tape 1", row(x, 1), "2 3 4");
        Check.due("tape 0", row(x, 0), "1 2 3 4 5");
        Check.due("shift(0, 0, 0, 1, 4)", x.shift(0, 0, 0, 1, 4), 4);
        Check.due("tape 0: as they were before", row(x, 0), "1 1 2 3 4");
        Check.due("shift(0, 1, 0, 0, 4)", x.shift(0, 1, 0, 0, 4), 4);
        Check.due("tape 0", row(x, 0), "1 2 3 4 4");
        Check.due("shift(0, 5, 1, 3, 0)", x.shift(0, 5, 1, 3, 0), 0);
        Check.due("shift(0, 6, 1, 0, 0)", x.shift(0, 6, 1, 0, 0), PLACE);
        Check.due("shift(0, 0, 1, 4, 0)", x.shift(0, 0, 1, 4, 0), PLACE);
        Check.due("shift(0, 3, 1, 0, 3)", x.shift(0, 3, 1, 0, 3), PLACE);
        Check.due("shift(0, 0, 1, 1, 3)", x.shift(0, 0, 1, 1, 3), PLACE);
        Check.due("shift(0, 0, 1, 0, -1)", x.shift(0, 0, 1, 0, -1), PLACE);
        Check.due("shift(0, -1, 1, 0, 1)", x.shift(0, -1, 1, 0, 1), PLACE);
        Check.due("shift(0, 0, 1, -1, 1)", x.shift(0, 0, 1, -1, 1), PLACE);
        Check.due("shift(0, 1, 1, 0, MAX)", x.shift(0, 1, 1, 0, Integer.MAX_VALUE), PLACE);
        Check.due("shift(0, MAX, 1, MAX, MAX)", x.shift(0, Integer.MAX_VALUE, 1, Integer.MAX_VALUE, Integer.MAX_VALUE),
            PLACE);
        Check.due("shift(0, 0, 2, 0, 1)", x.shift(0, 0, 2, 0, 1), CAST);
        Check.due("shift(0, -1, 2, 0, 1): CAST ahead of PLACE", x.shift(0, -1, 2, 0, 1), CAST);
        Check.due("shift(0, 0, 5, 0, 1)", x.shift(0, 0, 5, 0, 1), NOTHING);
        Check.due("shift(5, 0, 0, 0, 1)", x.shift(5, 0, 0, 0, 1), NOTHING);
        Check.due("shift(5, 0, 4, 0, 1)", x.shift(5, 0, 4, 0, 1), NOTHING);
        Check.due("shift(5, 0, 6, 0, 1)", x.shift(5, 0, 6, 0, 1), LionRing.NONE);
        Check.due("shift(-1, 0, 0, 0, 1)", x.shift(-1, 0, 0, 0, 1), LionRing.NONE);
        Check.due("tape 0", row(x, 0), "1 2 3 4 4");
        Check.due("tape 1", row(x, 1), "2 3 4");
    }

    private static LionRing scene() {
        LionRing x = new LionRing();
        x.beast(2, 9, 32, 0);
        x.beast(0, 0, 5, 0);
        x.beast(0, 0, 9, 0);
        return x;
    }

    private static void tell(LionRing x, int... cells) {
        x.tape(0, 0, cells.length);
        for (int i = 0; i < cells.length; i++) {
            x.item(0, i, cells[i]);
        }
    }

    private static void judged() {
        LionRing x = scene();
        tell(x, 32, 5, 9);
        Check.due("judge(0, 0, 0)", x.judge(0, 0, 0), -5);
        Check.due("judge(0, 1, 0)", x.judge(0, 1, 0), 0);
        Check.due("judge(0, 3, 0)", x.judge(0, 3, 0), 100);
        Check.due("judge(0, -1, 0)", x.judge(0, -1, 0), 100);
        Check.due("judge(0, MAX, 0)", x.judge(0, Integer.MAX_VALUE, 0), 100);
        Check.due("judge(0, MIN, 0)", x.judge(0, Integer.MIN_VALUE, 0), 100);
        tell(x, 7, 7, 32, 5, 9, 7);
        Check.due("judge(0, 2, 0)", x.judge(0, 2, 0), -5);
        tell(x, 32, 5, 10);
        Check.due("judge(0, 0, 0)", x.judge(0, 0, 0), 2);
        tell(x, 32, 6, 10);
        Check.due("judge(0, 0, 0): the first elsewhere", x.judge(0, 0, 0), 1);
        tell(x, 32, 5);
        Check.due("judge(0, 0, 0): the row ends", x.judge(0, 0, 0), 102);
        tell(x, 32, 6);
        Check.due("judge(0, 0, 0): elsewhere ahead of the end", x.judge(0, 0, 0), 1);
        tell(x);
        Check.due("judge(0, 0, 0): a row of none", x.judge(0, 0, 0), 100);
        Check.due("judge(1, 0, 0): nothing", x.judge(1, 0, 0), 100);
        tell(x, 32, 5, 9);
        x.tape(0, -1, 0);
        Check.due("judge(0, 0, 0): nothing any more", x.judge(0, 0, 0), 100);
        for (int sort = 1; sort < 5; sort++) {
            x.tape(2, sort, 3);
            Check.due("judge(2, 0, 0) of sort " + sort, x.judge(2, 0, 0), CAST);
        }
        Check.due("judge(2, -1, 61): BAD ahead of CAST", x.judge(2, -1, 61), LionRing.BAD);
        Check.due("judge(1, 0, -1)", x.judge(1, 0, -1), LionRing.BAD);
        Check.due("judge(6, 0, 61)", x.judge(6, 0, 61), LionRing.NONE);
        Check.due("judge(-1, 0, 0)", x.judge(-1, 0, 0), LionRing.NONE);
        LionRing none = new LionRing();
        Check.due("judge(0, 0, 0) without BEASTS", none.judge(0, 0, 0), -5);
        none.tape(0, 0, 3);
        Check.due("judge(0, 0, 60) without BEASTS", none.judge(0, 0, 60), -5);
    }

    private static void judgedLater() {
        LionRing x = scene();
        tell(x, 34, 5, 9);
        Check.due("judge(0, 0, 2)", x.judge(0, 0, 2), -5);
        Check.due("judge(0, 0, 1)", x.judge(0, 0, 1), 0);
        tell(x, 35, 5, 9);
        Check.due("judge(0, 0, 3): CAUGHT", x.judge(0, 0, 3), -5);
        Check.due("judge(0, 0, 60)", x.judge(0, 0, 60), -5);
        Check.due("count(5)", x.count(5), 0);
        Check.due("of(0, 2)", x.of(0, 2), 32);
        LionRing y = new LionRing();
        y.beast(2, 9, 34, 0);
        y.beast(0, 0, 0, 0);
        Check.ring(y, "yield 9 n=1&t>1");
        // CAUGHT behind the first TENTH, it goes on
        tell(y, 35, 0);
        Check.due("judge(0, 0, 5)", y.judge(0, 0, 5), -5);
        y.tamer(7);
        tell(y, 8, 0);
        Check.due("judge(0, 0, 60)", y.judge(0, 0, 60), 0);
    }
}
