/** Promise 9 (go), and what BEASTS of each KIND do in a TENTH (of, what 7). */
public final class TenthTest {
    private static final String LINES = "yield 3 n<9;come 1 n<9";

    public static void main(String[] args) {
        move();
        yielding();
        coming();
        refusing();
        cornered();
        taught();
        feigned();
        oneBehindTheOther();
        going();
        Check.end();
    }

    /** A BEAST alone with THE TAMER in a CELL: what it does, and where it is then. */
    private static void deed(int kind, int v, int cell, int tamer, int deed, int then) {
        deed(LINES, kind, v, cell, tamer, cell, deed, then);
    }

    private static void deed(String text, int kind, int v, int cell, int tamer, int stool, int deed, int then) {
        LionRing x = new LionRing();
        x.tamer(tamer);
        Check.due("beast", x.beast(kind, v, cell, 0), 0);
        x.set(0, 0, stool);
        if (!text.isEmpty()) {
            Check.due("reading " + text, Check.ring(x, text), 0);
        }
        String call = "KIND " + kind + " v " + v + " in " + cell + ", THE TAMER in " + tamer + ", STOOL " + stool;
        Check.due("of(0, 7): " + call, x.of(0, 7), deed);
        Check.due("go(1): " + call, x.go(1), then == tamer ? 0 : -5);
        Check.due("then: " + call, x.of(0, 2), then);
    }

    private static void move() {
        // FAR 3: 8 and 13 are more ROUND; 8 is the least
        deed(0, 0, 14, 35, 1, 8);
        // FAR 3, though ROUND is 5
        deed(0, 0, 14, 29, 1, 8);
        deed(0, 0, 7, 35, 0, 7);
        // FAR 1: 15 and 20 are less ROUND
        deed(0, 0, 14, 21, 2, 15);
        deed(0, 0, 14, 15, 2, 15);
        deed(0, 0, 14, 8, 2, 8);
        deed(0, 0, 14, 16, 1, 8);
        // in the corner there is no CELL to yield to
        deed(0, 0, 0, 14, 0, 0);
        deed(0, 0, 35, 21, 0, 35);
        deed("", 0, 0, 14, 15, 14, 0, 14);
    }

    private static void yielding() {
        deed(1, 0, 14, 35, 1, 8);
        deed(1, 0, 14, 21, 1, 8);
        deed(1, 0, 14, 15, 1, 8);
        deed(1, 0, 14, 8, 1, 13);
        deed(1, 0, 7, 35, 0, 7);
        deed(1, 0, 0, 14, 0, 0);
    }

    private static void coming() {
        deed(2, 0, 14, 35, 1, 8);
        deed(2, 1, 14, 16, 2, 15);
        deed(2, 2, 14, 35, 2, 15);
        // COMES is above YIELDS
        deed(2, 9, 0, 35, 2, 1);
        deed("", 2, 1, 34, 35, 34, 2, 35);
        deed("", 2, 0, 34, 35, 34, 0, 34);
    }

    private static void refusing() {
        deed(3, 0, 14, 21, 2, 15);
        deed(3, 1, 14, 21, 0, 14);
        deed(3, 2, 14, 21, 0, 14);
        LionRing x = new LionRing();
        x.beast(3, 3, 21, 0);
        Check.ring(x, "yield 9 n=0");
        int[] cells = {21, 15, 9, 9, 3, 2, 2, 1, 0};
        for (int tenth = 0; tenth < cells.length; tenth++) {
            x.go(1);
            Check.due("refusing behind TENTH " + tenth, x.of(0, 2), cells[tenth]);
        }
        LionRing y = new LionRing();
        y.beast(3, 7, 21, 0);
        y.go(60);
        Check.ring(y, "yield 9 n=0");
        Check.due("of(0, 7): 60 is no multiple of 7", y.of(0, 7), 1);
        y.go(3);
        Check.due("of(0, 7): 63 is one", y.of(0, 7), 0);
    }

    private static void cornered() {
        deed(4, 0, 14, 21, 1, 8);
        deed(4, 0, 0, 8, 2, 1);
        // 6 is more ROUND from 1 than the corner
        deed(4, 0, 0, 1, 1, 6);
        deed(4, 0, 0, 21, 2, 1);
        deed(4, 0, 0, 22, 0, 0);
        deed(4, 0, 35, 21, 2, 29);
        LionRing x = new LionRing();
        x.tamer(6);
        x.beast(4, 0, 0, 0);
        x.beast(0, 0, 1, 0);
        Check.ring(x, "yield 3 n=0");
        Check.due("of(0, 7): shut in", x.of(0, 7), 2);
        Check.due("go(1): into THE TAMER's CELL", x.go(1), 0);
    }

    private static void taught() {
        // farther than its lines: toward its STOOL, if that is no farther than v
        deed(LINES, 5, 3, 0, 35, 3, 3, 1);
        deed(LINES, 5, 2, 0, 35, 3, 0, 0);
        deed(LINES, 5, 3, 0, 35, 21, 3, 1);
        deed(LINES, 5, 0, 0, 35, 0, 0, 0);
        deed(LINES, 5, 9, 0, 35, 24, 3, 6);
        // within them it yields
        deed(LINES, 5, 9, 14, 35, 21, 1, 8);
        deed(LINES, 5, 9, 14, 15, 21, 1, 8);
        deed(LINES, 5, 9, 0, 14, 3, 0, 0);
        // never into THE TAMER's CELL
        deed("", 5, 9, 0, 1, 8, 3, 6);
        deed("", 5, 9, 0, 1, 3, 0, 0);
        deed("", 5, 9, 0, 2, 3, 3, 1);
    }

    private static void feigned() {
        deed(6, 0, 14, 15, 0, 14);
        deed(6, 0, 14, 21, 2, 15);
        deed(6, 5, 14, 8, 0, 14);
        deed(6, 5, 14, 35, 2, 15);
        deed(6, 0, 14, 35, 1, 8);
    }

    private static void oneBehindTheOther() {
        LionRing x = new LionRing();
        x.beast(2, 9, 32, 0);
        x.beast(2, 9, 33, 0);
        Check.due("of(0, 7): the next CELL has a BEAST", x.of(0, 7), 0);
        Check.due("go(1)", x.go(1), -5);
        Check.due("0 had its turn first", x.of(0, 2), 32);
        Check.due("1 then", x.of(1, 2), 34);
        Check.due("go(1)", x.go(1), 1);
        Check.due("0 follows", x.of(0, 2), 33);
        LionRing y = new LionRing();
        y.beast(2, 9, 33, 0);
        y.beast(2, 9, 32, 0);
        y.go(1);
        Check.due("0 leaves its CELL", y.of(0, 2), 34);
        Check.due("into which 1 comes in the same TENTH", y.of(1, 2), 33);
    }

    private static void going() {
        LionRing x = new LionRing();
        x.beast(0, 0, 0, 0);
        x.beast(2, 9, 32, 0);
        Check.due("go(0)", x.go(0), LionRing.BAD);
        Check.due("go(61)", x.go(61), LionRing.BAD);
        Check.due("go(-1)", x.go(-1), LionRing.BAD);
        Check.due("count(5)", x.count(5), 0);
        Check.due("go(60)", x.go(60), 1);
        Check.due("count(5): it ends when THE TAMER is CAUGHT", x.count(5), 3);
        Check.due("go(5): still CAUGHT", x.go(5), 1);
        Check.due("count(5)", x.count(5), 4);
        Check.due("tamer(35)", x.tamer(35), LionRing.STATE);
        Check.due("tamer(34)", x.tamer(34), 35);
        Check.ring(x, "yield 9 n<9");
        Check.due("go(2)", x.go(2), 1);
    }
}
