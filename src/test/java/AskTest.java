/** Promises 10 to 17: safe, from, walk, gone, shortest, seats, sit, line. */
public final class AskTest {
    private static final String LINES = "yield 3 n<9;come 1 n<9";
    private static final long ALL = (1L << 36) - 1;

    public static void main(String[] args) {
        safe();
        from();
        walk();
        gone();
        shortest();
        seats();
        sit();
        line();
        Check.end();
    }

    private static void safe() {
        LionRing x = new LionRing();
        x.beast(0, 0, 0, 0);
        Check.due("safe() without a RING", x.safe(), ALL - 1);
        Check.ring(x, LINES);
        Check.due("safe(): 0 comes if THE TAMER is NEXT or at the slant", x.safe(), ALL - 1 - (1L << 1) - (1L << 6) - (1L << 7));
        x.beast(1, 0, 35 - 7, 0);
        Check.due("safe(): YIELDING comes nowhere", x.safe(), ALL - 1 - (1L << 1) - (1L << 6) - (1L << 7) - (1L << 28));
        Check.due("count(7)", x.count(7), 35);
        LionRing y = new LionRing();
        y.beast(6, 9, 0, 0);
        Check.due("safe(): FEIGNED stays if THE TAMER is NEXT", y.safe(), 1L << 1 | 1L << 6);
        LionRing z = new LionRing();
        z.beast(5, 9, 0, 0);
        z.set(0, 0, 5);
        Check.due("safe(): toward its STOOL is not coming", z.safe(), ALL - 1);
        LionRing w = new LionRing();
        w.beast(3, 2, 14, 0);
        Check.ring(w, "yield 9 n=0;come 8 n=0");
        Check.due("safe(): it refuses", w.safe(), ALL - (1L << 14));
        w.go(1);
        Check.due("safe(): it comes from anywhere", w.safe(), 0);
    }

    private static void from() {
        LionRing x = new LionRing();
        x.beast(0, 0, 0, 0);
        Check.due("from(0): it never leaves", x.from(0), -5);
        Check.ring(x, LINES);
        Check.due("from(0)", x.from(0), 1);
        LionRing u = new LionRing();
        u.beast(0, 0, 7, 0);
        Check.ring(u, LINES);
        Check.due("from(0)", u.from(0), 0);
        x.beast(0, 0, 4, 0);
        // from 1, 2 and 3 both would leave; 4 has a BEAST; 5 is farther than 3 from BEAST 0
        Check.due("from(0)", x.from(0), 6);
        Check.due("from(1)", x.from(1), 5);
        Check.due("from(2)", x.from(2), LionRing.NONE);
        Check.due("from(-1)", x.from(-1), LionRing.NONE);
        Check.due("count(7)", x.count(7), 35);
        LionRing y = new LionRing();
        y.beast(5, 9, 0, 0);
        y.set(0, 0, 1);
        Check.due("from(0): toward its STOOL it leaves", y.from(0), 2);
        y.beast(5, 9, 35 - 1, 0);
        y.set(1, 0, 33);
        Check.due("from(0): both leave; 33 is THE TAMER's then", y.from(0), 33);
        Check.due("from(1)", y.from(1), 1);
    }

    private static void walk() {
        LionRing x = new LionRing();
        Check.due("walk(36)", x.walk(36), LionRing.NONE);
        Check.due("walk(-2)", x.walk(-2), LionRing.NONE);
        Check.due("walk(-1)", x.walk(-1), 0);
        for (int i = 1; i <= 12; i++) {
            Check.due("walk(3)", x.walk(3), i);
        }
        Check.due("walk(3)", x.walk(3), LionRing.FULL);
        Check.due("walk(36): NONE ahead of FULL", x.walk(36), LionRing.NONE);
        Check.due("count(2)", x.count(2), 12);
        Check.due("walk(-1)", x.walk(-1), 0);
        Check.due("count(2)", x.count(2), 0);
        Check.due("walk(0)", x.walk(0), 1);
    }

    private static void walked(LionRing x, int... cells) {
        x.walk(-1);
        for (int c : cells) {
            x.walk(c);
        }
    }

    private static void goneIs(LionRing x, int beast, int caught, int stayed, int tamer) {
        Check.due("gone(0)", x.gone(0), beast);
        Check.due("gone(10)", x.gone(10), caught);
        Check.due("gone(11)", x.gone(11), stayed);
        Check.due("gone(12)", x.gone(12), tamer);
    }

    private static void gone() {
        LionRing x = new LionRing();
        Check.due("gone(0) without BEASTS", x.gone(0), LionRing.NONE);
        x.beast(2, 9, 32, 0);
        goneIs(x, 32, -5, -5, 35);
        walked(x, 34, 20, 34);
        // 33 and then 34, where THE TAMER is CAUGHT; it stays there
        goneIs(x, 34, 1, 1, 34);
        walked(x, 35, 29, 29);
        goneIs(x, 28, -5, -5, 29);
        walked(x, 35, 35, 35, 29, 35);
        // CAUGHT behind 2, it goes on, and the BEAST behind it
        goneIs(x, 35, 2, -5, 35);
        Check.due("gone(1)", x.gone(1), LionRing.NONE);
        Check.due("gone(6)", x.gone(6), LionRing.NONE);
        Check.due("gone(9)", x.gone(9), LionRing.NONE);
        Check.due("gone(13)", x.gone(13), LionRing.NONE);
        Check.due("gone(-1)", x.gone(-1), LionRing.NONE);
        Check.due("of(0, 2): asked alone", x.of(0, 2), 32);
        Check.due("count(5)", x.count(5), 0);
        Check.due("count(7)", x.count(7), 35);
        LionRing y = new LionRing();
        y.beast(0, 0, 34, 0);
        walked(y, 34);
        goneIs(y, 34, -5, 0, 35);
        walked(y, 29, 22);
        goneIs(y, 34, -5, 1, 29);
        LionRing z = new LionRing();
        z.beast(0, 0, 21, 0);
        Check.ring(z, "yield 9 t=1");
        walked(z, 35, 35, 35);
        goneIs(z, 15, -5, -5, 35);
    }

    private static void shortestIs(LionRing x, int... cells) {
        Check.due("shortest(0, -1)", x.shortest(0, -1), cells.length);
        for (int i = 0; i < 5; i++) {
            Check.due("shortest(0, " + i + ")", x.shortest(0, i), i < cells.length ? cells[i] : -5);
        }
    }

    private static LionRing alone(int kind, int v, int cell, int stool, int tamer) {
        LionRing x = new LionRing();
        x.tamer(tamer);
        x.beast(kind, v, cell, 0);
        x.set(0, 0, stool);
        Check.ring(x, LINES);
        return x;
    }

    private static void shortest() {
        LionRing x = new LionRing();
        x.beast(2, 9, 30, 0);
        shortestIs(x);
        x.set(0, 0, 31);
        // from 29, 24 would be as near as 31
        shortestIs(x, 34);
        x.set(0, 0, 24);
        shortestIs(x, 29);
        x.set(0, 0, 32);
        // from 28 then, 25 would be as near as 32
        shortestIs(x, 34, 33);
        x.set(0, 0, 34);
        shortestIs(x, 34, 33, 34, 35);
        x.set(0, 0, 5);
        Check.due("shortest(0, -1): too far", x.shortest(0, -1), -5);
        Check.due("shortest(0, 0)", x.shortest(0, 0), -5);
        Check.due("shortest(0, 5)", x.shortest(0, 5), LionRing.NONE);
        Check.due("shortest(0, -2)", x.shortest(0, -2), LionRing.NONE);
        Check.due("shortest(1, -1)", x.shortest(1, -1), LionRing.NONE);
        Check.due("shortest(-1, -1)", x.shortest(-1, -1), LionRing.NONE);
        shortestIs(alone(2, 9, 0, 10, 35), 29, 23, 17, 16, 16);
        shortestIs(alone(1, 0, 14, 0, 21), 15, 9, 3, 2);
        shortestIs(alone(0, 0, 21, 6, 15), 9, 8, 7, 13, 7);
        LionRing y = new LionRing();
        y.beast(0, 0, 21, 0);
        y.set(0, 0, 20);
        Check.ring(y, "yield 9 t=2");
        // only in TENTH 2 it moves: from 23 to 20 alone
        Check.due("shortest(0, -1): in three", y.shortest(0, -1), 3);
        LionRing z = new LionRing();
        z.beast(2, 9, 34, 0);
        Check.due("go(1)", z.go(1), 0);
        z.set(0, 0, 35);
        Check.due("shortest(0, -1): none, though CAUGHT", z.shortest(0, -1), 0);
        LionRing w = new LionRing();
        w.beast(2, 9, 34, 0);
        w.set(0, 0, 35);
        // it would come into 35 only if THE TAMER were there
        Check.due("shortest(0, -1): THE TAMER may not be CAUGHT", w.shortest(0, -1), -5);
        Check.due("count(5)", w.count(5), 0);
    }

    private static void seats() {
        LionRing x = new LionRing();
        Check.due("seats(-1) without BEASTS", x.seats(-1), 0);
        Check.due("seats(0) without BEASTS", x.seats(0), -1001);
        x.beast(0, 0, 14, 0);
        x.beast(0, 0, 15, 0);
        Check.due("seats(-1)", x.seats(-1), 0);
        Check.due("seats(0)", x.seats(0), 14);
        x.enemies(0, 1, true);
        Check.due("seats(-1): ENEMIES NEXT to one another", x.seats(-1), -5);
        Check.due("seats(0)", x.seats(0), -5);
        Check.due("seats(2)", x.seats(2), -1001);
        Check.due("seats(-2)", x.seats(-2), -1001);
        x.set(0, 0, 32);
        x.set(1, 0, 2);
        // 2 + 4 and 3 + 3
        Check.due("seats(-1)", x.seats(-1), 6);
        Check.due("seats(0): of several the first by CELLS", x.seats(0), 2);
        Check.due("seats(1)", x.seats(1), 32);
        x.set(0, 0, 12);
        x.set(1, 0, 17);
        Check.due("seats(-1)", x.seats(-1), 4);
        Check.due("seats(0)", x.seats(0), 12);
        x.set(0, 0, 33);
        x.set(1, 0, 12);
        x.set(0, 0, 17);
        Check.due("seats(0): whosever STOOL it was", x.seats(0), 12);
        LionRing y = new LionRing();
        y.beast(0, 0, 0, 0);
        y.beast(0, 0, 1, 0);
        y.beast(0, 0, 3, 0);
        y.enemies(1, 0, true);
        // 0 in 0, 1 in 3, 2 in 1: 0 + 2 + 2; 0 in 3, 1 in 1, 2 in 0: 3 + 0 + 3
        Check.due("seats(-1)", y.seats(-1), 4);
        Check.due("seats(0)", y.seats(0), 0);
        Check.due("seats(1)", y.seats(1), 3);
        Check.due("seats(2)", y.seats(2), 1);
        Check.due("seats(3)", y.seats(3), -1001);
        y.enemies(0, 1, false);
        Check.due("seats(-1)", y.seats(-1), 0);
    }

    private static void sit() {
        LionRing x = new LionRing();
        Check.due("sit() without BEASTS", x.sit(), 0);
        x.beast(2, 9, 30, 0);
        Check.due("sit()", x.sit(), 0);
        x.set(0, 0, 32);
        Check.due("sit()", x.sit(), 2);
        x.set(0, 0, 35);
        Check.due("sit(): CAUGHT", x.sit(), 5);
        x.set(0, 0, 0);
        Check.due("sit()", x.sit(), -5);
        Check.due("of(0, 2)", x.of(0, 2), 30);
        x.set(0, 0, 31);
        x.beast(0, 0, 0, 0);
        Check.due("sit(): both at once", x.sit(), 1);
        x.set(1, 0, 1);
        Check.due("sit(): one never", x.sit(), -5);
        LionRing y = new LionRing();
        y.beast(0, 0, 34, 0);
        y.set(0, 0, 28);
        Check.ring(y, "yield 9 t=59");
        Check.due("sit(): the last of 60", y.sit(), 60);
        y.go(1);
        Check.due("sit()", y.sit(), 59);
        y.beast(3, 0, 0, 0);
        y.set(1, 0, 6);
        Check.due("sit(): one comes no more", y.sit(), -5);
    }

    private static void line() {
        LionRing x = new LionRing();
        x.beast(0, 0, 14, 0);
        Check.due("line(0): it stays", x.line(0), -5);
        Check.ring(x, "yield 2 n=0");
        Check.due("line(0)", x.line(0), 2);
        Check.ring(x, LINES);
        Check.due("line(0): from the corner on", x.line(0), 3);
        Check.ring(x, "yield 1 n=0");
        Check.due("line(0)", x.line(0), 1);
        Check.due("line(1)", x.line(1), LionRing.NONE);
        Check.due("line(-1)", x.line(-1), LionRing.NONE);
        Check.due("count(7)", x.count(7), 35);
        LionRing y = new LionRing();
        y.beast(4, 0, 0, 0);
        Check.ring(y, "yield 9 n=0");
        Check.due("line(0): CORNERED comes", y.line(0), 5);
        LionRing z = new LionRing();
        z.beast(1, 0, 0, 0);
        Check.ring(z, "yield 9 n=0");
        // from 5 along the row: 6 is more ROUND then
        Check.due("line(0)", z.line(0), 5);
        z.beast(0, 0, 6, 0);
        Check.due("line(0): 6 has a BEAST", z.line(0), -5);
        LionRing w = new LionRing();
        w.beast(2, 9, 14, 0);
        w.beast(0, 0, 13, 0);
        w.beast(0, 0, 8, 0);
        w.beast(0, 0, 20, 0);
        w.beast(0, 0, 15, 0);
        Check.due("line(0): it has no CELL to come to", w.line(0), -5);
        // THE TAMER comes by the least CELLS: last by this one
        lineEndsIn(21, 15, 20);
        lineEndsIn(8, 7, 14);
        lineEndsIn(25, 19, 24);
        lineEndsIn(28, 22, 27);
    }

    /** A BEAST that comes when THE TAMER is NEXT to it: a BEAST in the last CELL of the line holds it, else none. */
    private static void lineEndsIn(int cell, int last, int other) {
        LionRing x = new LionRing();
        x.beast(2, 1, cell, 0);
        x.beast(0, 0, last, 0);
        Check.due("line(0) of " + cell + ", a BEAST in " + last, x.line(0), -5);
        LionRing y = new LionRing();
        y.beast(2, 1, cell, 0);
        y.beast(0, 0, other, 0);
        Check.due("line(0) of " + cell + ", a BEAST in " + other, y.line(0), 1);
    }
}
