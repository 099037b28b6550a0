import java.util.function.ToLongFunction;

/** The boundary cases of what is asked (the terms' part 3), promises 10 to 17, a test for each sentence. */
public final class EdgeAskTest {
    private static final int NONE = LionRing.NONE, FULL = LionRing.FULL, NEVER = -5;
    private static final int MOST = Integer.MAX_VALUE, LEAST = Integer.MIN_VALUE;
    private static final int[] NO_BEASTS = {-1, 3, 6, MOST, LEAST};

    public static void main(String[] args) {
        askingChangesNothing();
        safeOfNoBeasts();
        safeWithoutABeast();
        safeIntoAnotherCell();
        safeAsAllIs();
        fromNone();
        fromNobody();
        fromLeastCell();
        fromNoneElse();
        walkNone();
        walkFull();
        walkEmpty();
        goneNone();
        goneOfNoWalk();
        goneOwnOrNext();
        goneStaysBesideABeast();
        goneFirstTenths();
        goneOfTwelve();
        goneThoughCaught();
        shortestNone();
        shortestZero();
        shortestFiveAtMost();
        shortestIsOver();
        shortestNeverCaught();
        shortestFromCaught();
        shortestFirstAsARow();
        shortestByTenths();
        seatsNone();
        seatsWithoutBeasts();
        seatsEachOnce();
        seatsOfEnemies();
        seatsNever();
        seatsFirstAsARow();
        sitAtOnce();
        sitBySixty();
        sitThoughCaught();
        lineNone();
        lineFromTheCornerOn();
        lineFarOneOrMore();
        lineLeastCorner();
        lineOfOneInACorner();
        lineAsAllIs();
        Check.end();
    }

    private static LionRing alone(int kind, int v, int cell, int stool, int tamer, String text) {
        LionRing x = new LionRing();
        x.tamer(tamer);
        x.beast(kind, v, cell, 0);
        x.set(0, 0, stool);
        if (!text.isEmpty()) {
            Check.due("reading " + text, Check.ring(x, text), 0);
        }
        return x;
    }

    private static void asked(String call, ToLongFunction<LionRing> done) {
        Alike.asked(Scenes::rich, call + " of three BEASTS", done, done.applyAsLong(Scenes.rich()));
        Alike.asked(Scenes::full, call + " of six BEASTS", done, done.applyAsLong(Scenes.full()));
    }

    /** "All that follows is asked, goes on from how all is, and changes nothing." */
    private static void askingChangesNothing() {
        asked("safe()", LionRing::safe);
        asked("sit()", LionRing::sit);
        asked("gone(10)", x -> x.gone(10));
        asked("gone(11)", x -> x.gone(11));
        asked("gone(12)", x -> x.gone(12));
        asked("seats(-1)", x -> x.seats(-1));
        asked("calm(6, 0)", x -> x.calm(6, 0));
        asked("calm(6, 1)", x -> x.calm(6, 1));
        asked("judge(0, 0, 60)", x -> x.judge(0, 0, 60));
        asked("taken(1, 0)", x -> x.taken(1, 0));
        asked("trace(0)", x -> x.trace(0));
        asked("count(6)", x -> x.count(6));
        asked("read(0, 1)", x -> x.read(0, 1));
        for (int beast = 0; beast < 6; beast++) {
            int b = beast;
            asked("from(" + b + ")", x -> x.from(b));
            asked("gone(" + b + ")", x -> x.gone(b));
            asked("shortest(" + b + ", -1)", x -> x.shortest(b, -1));
            asked("shortest(" + b + ", 0)", x -> x.shortest(b, 0));
            asked("seats(" + b + ")", x -> x.seats(b));
            asked("line(" + b + ")", x -> x.line(b));
            asked("kinds(" + b + ")", x -> x.kinds(b));
        }
    }

    // ---- promise 10

    private static long bits(int... cells) {
        long bits = 0;
        for (int c : cells) {
            bits |= 1L << c;
        }
        return bits;
    }

    private static void safeOfNoBeasts() {
        LionRing x = new LionRing();
        Check.due("safe() without BEASTS", x.safe(), 68719476735L);
        Check.ring(x, "yield 9 n<9;come 8 n<9");
        Check.due("safe() with a RING", x.safe(), 68719476735L);
    }

    /** "CELLS without a BEAST in which THE TAMER could stand": its own, too, unless it is CAUGHT there */
    private static void safeWithoutABeast() {
        LionRing x = new LionRing();
        x.beast(2, 0, 0, 0);
        x.beast(2, 0, 34, 0);
        Check.due("safe()", x.safe(), 68719476735L - bits(0, 34));
        x.set(1, 0, 33);
        Check.due("safe(): a STOOL is no BEAST", x.safe(), 68719476735L - bits(0, 34));
        LionRing y = new LionRing();
        y.beast(2, 1, 34, 0);
        y.go(1);
        Check.due("safe(): THE TAMER is CAUGHT in 35", y.safe(), 68719476735L - bits(28, 29, 34, 35));
    }

    /** "with no BEAST that would come into another CELL then" */
    private static void safeIntoAnotherCell() {
        // FAR 1 of 14 but shut in toward 15: it would come, but stays where it is
        LionRing x = alone(2, 1, 14, 14, 35, "");
        x.beast(3, 0, 15, 0);
        long near = bits(7, 8, 9, 13, 19, 20, 21);
        Check.due("safe()", x.safe(), 68719476735L - near - bits(14, 15));
        x.beast(3, 0, 8, 0);
        Check.due("safe(): toward 9 none is open any more", x.safe(), 68719476735L - near - bits(14, 15) + bits(9));
        // CORNERED comes, too
        LionRing y = alone(4, 0, 0, 0, 35, "yield 1 n=0");
        Check.due("safe(): CORNERED in 0 comes from 7 alone", y.safe(), 68719476735L - bits(0, 7));
        // to yield, or to go toward a STOOL, is not to come
        Check.due("safe() of YIELDING", alone(1, 0, 14, 14, 35, "yield 9 n=0").safe(), 68719476735L - bits(14));
        Check.due("safe() of TAUGHT", alone(5, 9, 14, 0, 35, "").safe(), 68719476735L - bits(14));
        Check.due("safe() of MOVE", alone(0, 0, 14, 14, 35, "yield 2 n=0").safe(), 68719476735L - bits(14));
        Check.due("safe(): none is", alone(2, 9, 14, 14, 35, "").safe(), 0);
    }

    /** "(each as if it were its turn, as all is)" */
    private static void safeAsAllIs() {
        LionRing x = alone(1, 0, 14, 14, 17, "yield 9 n=0");
        x.beast(2, 9, 13, 0);
        // BEAST 1 could come to 14 only when BEAST 0 has left it
        Check.due("safe()", x.safe(), bits(15, 16, 17));
        x.go(1);
        Check.due("of(1, 2): it did", x.of(1, 2), 14);
    }

    // ---- promise 11

    /** "NONE." */
    private static void fromNone() {
        for (int beast : NO_BEASTS) {
            Alike.refused(Scenes::rich, "from(" + beast + ")", x -> x.from(beast), NONE);
        }
    }

    /** "(-5: none)" */
    private static void fromNobody() {
        Check.due("from(0) without lines", alone(0, 0, 14, 14, 35, "").from(0), NEVER);
        Check.due("from(0) of YIELDING: FAR 0 is no CELL without a BEAST", alone(1, 0, 14, 14, 35, "").from(0), NEVER);
        Check.due("from(0) of REFUSING in TENTH 0", alone(3, 5, 14, 14, 35, "yield 9 n=0").from(0), NEVER);
        LionRing x = alone(0, 0, 14, 14, 35, "yield 9 n<9");
        x.beast(0, 0, 16, 0);
        Check.due("from(0): both always leave", x.from(0), NEVER);
        Check.due("from(1)", x.from(1), NEVER);
        // only from beyond the last CELL BEAST 0 alone would come
        LionRing y = alone(2, 9, 0, 0, 35, "");
        y.beast(2, 5, 5, 0);
        Check.due("from(0): no CELL is farther than 5", y.from(0), NEVER);
        Check.due("from(1)", y.from(1), NEVER);
    }

    /** "the least CELL without a BEAST" */
    private static void fromLeastCell() {
        Check.due("from(0) of 14", alone(0, 0, 14, 14, 35, "yield 2 n=0").from(0), 0);
        Check.due("from(0) of 14", alone(0, 0, 14, 14, 35, "yield 1 n=0").from(0), 7);
        Check.due("from(0) of 21", alone(0, 0, 21, 21, 35, "yield 2 n=0").from(0), 7);
        LionRing x = alone(0, 0, 14, 14, 35, "yield 1 n=0");
        x.beast(0, 0, 7, 0);
        Check.due("from(0): 7 has a BEAST", x.from(0), 8);
        // THE TAMER's own CELL is one of them
        Check.due("from(0) of 35", alone(0, 0, 28, 28, 35, "yield 1 n=0").from(0), 21);
        // the last CELL alone: the one in 28 holds the way, the one in 33 the rest
        LionRing y = alone(2, 1, 34, 34, 0, "");
        y.beast(3, 0, 28, 0);
        y.beast(3, 0, 33, 0);
        Check.due("from(0): 29 and 35 are left", y.from(0), 29);
        y.beast(3, 0, 29, 0);
        Check.due("from(0): 35 alone", y.from(0), 35);
    }

    /** "that one would leave its CELL and none else would" */
    private static void fromNoneElse() {
        LionRing x = alone(0, 0, 12, 12, 35, "yield 1 n<9");
        x.beast(0, 0, 14, 0);
        // 13, 7 and 19 are FAR 1 of both
        Check.due("from(0)", x.from(0), 6);
        Check.due("from(1)", x.from(1), 8);
        // another one that would leave from anywhere, whether it yields, comes or goes toward its STOOL
        int[] kinds = {0, 2, 5, 0};
        String[] texts = {"yield 9 n<2", "yield 9 n=0", "yield 9 n=0", "yield 9 n=0"};
        for (int i = 0; i < 4; i++) {
            LionRing y = alone(0, 0, 0, 0, 35, texts[i]);
            y.beast(kinds[i], 9, 32, 0);
            y.set(1, 0, 31);
            Check.due("from(0) beside KIND " + kinds[i] + " by " + texts[i], y.from(0), i < 3 ? NEVER : 1);
        }
        // from 1 to 6 the one in 0 would leave; from 7 it would yield, but it can't
        LionRing z = alone(0, 0, 14, 14, 35, "yield 9 n<9");
        z.beast(0, 0, 0, 0);
        Check.due("from(0)", z.from(0), 7);
        Check.due("from(1)", z.from(1), NEVER);
    }

    // ---- promise 12

    /** "NONE" */
    private static void walkNone() {
        for (int cell : new int[] {-2, 36, MOST, LEAST}) {
            Alike.refused(Scenes::rich, "walk(" + cell + ")", x -> x.walk(cell), NONE);
            Alike.refused(Scenes::full, "walk(" + cell + "), 12 told", x -> x.walk(cell), NONE);
        }
    }

    /** "FULL: 12" */
    private static void walkFull() {
        Alike.refused(Scenes::full, "walk(0), 12 told", x -> x.walk(0), FULL);
        Alike.refused(Scenes::full, "walk(35), 12 told", x -> x.walk(35), FULL);
        LionRing x = new LionRing();
        for (int i = 1; i <= 12; i++) {
            Check.due("walk", x.walk(i), i);
            Check.due("count(2)", x.count(2), i);
        }
        Check.due("walk(0)", x.walk(0), FULL);
    }

    /** "(-1: it is empty then, 0)" */
    private static void walkEmpty() {
        LionRing x = Scenes.full();
        Check.due("walk(-1), 12 told", x.walk(-1), 0);
        Check.due("count(2)", x.count(2), 0);
        Check.due("gone(12)", x.gone(12), 14);
        Check.due("walk(-1), none told", x.walk(-1), 0);
        Check.due("walk(13)", x.walk(13), 1);
        Check.due("gone(12)", x.gone(12), 13);
    }

    // ---- promise 13

    /** "NONE." */
    private static void goneNone() {
        for (int what : new int[] {-1, 3, 5, 6, 7, 8, 9, 13, MOST, LEAST}) {
            Alike.refused(Scenes::rich, "gone(" + what + ")", x -> x.gone(what), NONE);
        }
        for (int what : new int[] {-1, 6, 9, 13}) {
            Alike.refused(Scenes::full, "gone(" + what + ") of six", x -> x.gone(what), NONE);
        }
    }

    private static void goneIs(LionRing x, int caught, int stayed, int tamer) {
        Check.due("gone(10)", x.gone(10), caught);
        Check.due("gone(11)", x.gone(11), stayed);
        Check.due("gone(12)", x.gone(12), tamer);
    }

    private static LionRing walking(LionRing x, int... cells) {
        x.walk(-1);
        for (int c : cells) {
            x.walk(c);
        }
        return x;
    }

    private static void goneOfNoWalk() {
        LionRing x = new LionRing();
        goneIs(x, NEVER, NEVER, 35);
        x.beast(2, 9, 34, 0);
        goneIs(x, NEVER, NEVER, 35);
        Check.due("gone(0): no TENTH goes by", x.gone(0), 34);
        x.go(1);
        goneIs(x, NEVER, NEVER, 35);
    }

    /** "if that is its own, or one NEXT to that without a BEAST; else it stays" */
    private static void goneOwnOrNext() {
        for (int c = 0; c < 36; c++) {
            LionRing x = new LionRing();
            x.tamer(14);
            boolean goes = c == 14 || c == 8 || c == 13 || c == 15 || c == 20;
            goneIs(walking(x, c), NEVER, goes ? NEVER : 0, goes ? c : 14);
        }
        LionRing x = new LionRing();
        x.tamer(0);
        goneIs(walking(x, 6, 7, 1, 0), NEVER, NEVER, 0);
        goneIs(walking(x, 6, 14, 20), NEVER, 1, 6);
    }

    private static void goneStaysBesideABeast() {
        LionRing x = new LionRing();
        x.tamer(14);
        x.beast(0, 0, 15, 0);
        goneIs(walking(x, 15), NEVER, 0, 14);
        goneIs(walking(x, 14, 15, 20), NEVER, 1, 20);
        // THE TAMER goes first, so the CELL that a BEAST leaves in that TENTH is held then
        LionRing y = alone(0, 0, 15, 15, 14, "yield 9 t=0");
        goneIs(walking(y, 15, 15), NEVER, 0, 15);
    }

    /** "the first TENTH (by the WALK, from 0)", whatever TENTH it is */
    private static void goneFirstTenths() {
        LionRing x = alone(2, 9, 31, 31, 35, "");
        x.go(1);
        x.set(0, 0, 31);
        // from 32 it comes to 33, 34, 35
        goneIs(walking(x, 35, 35, 35, 35), 2, NEVER, 35);
        goneIs(walking(x, 0, 35, 35, 0), 2, 0, 35);
        goneIs(walking(x, 35, 0, 0, 35), 2, 1, 35);
        goneIs(walking(x, 35, 35), NEVER, NEVER, 35);
        // CAUGHT behind the first one
        LionRing y = alone(2, 9, 34, 34, 35, "");
        goneIs(walking(y, 35), 0, NEVER, 35);
        // CAUGHT at first, but at the end of none
        LionRing z = alone(2, 9, 34, 34, 35, "");
        z.go(1);
        goneIs(walking(z, 35), 0, NEVER, 35);
        Check.ring(z, "yield 1 n<0");
        goneIs(walking(z, 29), 0, NEVER, 29);
        LionRing w = new LionRing();
        w.beast(6, 9, 28, 0);
        goneIs(walking(w, 35, 35, 35, 35), NEVER, NEVER, 35);
    }

    /** "(12 at most)": all twelve are gone */
    private static void goneOfTwelve() {
        LionRing x = new LionRing();
        x.tamer(0);
        goneIs(walking(x, 1, 2, 3, 4, 5, 11, 17, 23, 29, 35, 34, 33), NEVER, NEVER, 33);
        goneIs(walking(x, 1, 2, 3, 4, 5, 11, 17, 23, 29, 35, 34, 35, 29), NEVER, NEVER, 35);
        goneIs(walking(x, 1, 2, 3, 4, 5, 11, 17, 23, 29, 35, 34, 0), NEVER, 11, 34);
        LionRing y = alone(0, 0, 0, 0, 35, "yield 9 t=11;yield 9 t=12");
        y.set(0, 0, 21);
        walking(y, 35, 35, 35, 35, 35, 35, 35, 35, 35, 35, 35);
        Check.due("gone(0) behind 11", y.gone(0), 0);
    }

    /** "(also if THE TAMER is CAUGHT)" */
    private static void goneThoughCaught() {
        LionRing x = alone(2, 9, 34, 34, 35, "");
        goneIs(walking(x, 35, 29, 23), 0, NEVER, 23);
        Check.due("gone(0): behind it", x.gone(0), 23);
        // from the CELL in which it is CAUGHT it may go to its own
        goneIs(walking(x, 35, 35, 35), 0, NEVER, 35);
    }

    // ---- promise 14

    /** "NONE." */
    private static void shortestNone() {
        for (int beast : NO_BEASTS) {
            Alike.refused(Scenes::rich, "shortest(" + beast + ", -1)", x -> x.shortest(beast, -1), NONE);
        }
        for (int what : new int[] {-2, 5, MOST, LEAST}) {
            Alike.refused(Scenes::rich, "shortest(0, " + what + ")", x -> x.shortest(0, what), NONE);
        }
        // also when there is no such WALK, or it is over
        Check.due("shortest(0, 5): no WALK", alone(0, 0, 0, 35, 14, "").shortest(0, 5), NONE);
        Check.due("shortest(0, 5): on its STOOL", alone(0, 0, 0, 0, 14, "").shortest(0, 5), NONE);
    }

    private static void shortestIs(LionRing x, int... cells) {
        Check.due("shortest(0, -1)", x.shortest(0, -1), cells.length);
        for (int i = 0; i < 5; i++) {
            Check.due("shortest(0, " + i + ")", x.shortest(0, i), i < cells.length ? cells[i] : NEVER);
        }
    }

    private static void shortestNever(LionRing x) {
        for (int what = -1; what < 5; what++) {
            Check.due("shortest(0, " + what + "): none", x.shortest(0, what), NEVER);
        }
    }

    /** "the fewest TENTHS (0 .. 5)": none at all, if it is on its STOOL */
    private static void shortestZero() {
        shortestIs(alone(0, 0, 14, 14, 35, ""));
        shortestIs(alone(2, 9, 14, 14, 15, ""));
        LionRing x = alone(2, 9, 34, 34, 35, "");
        x.go(1);
        x.set(0, 0, 35);
        shortestIs(x);
    }

    /** "(-5: none by 5)" */
    private static void shortestFiveAtMost() {
        // TAUGHT goes to its STOOL by itself, THE TAMER far off: the first WALK is then the least there is
        String none = "loud 1";
        for (int far = 1; far <= 5; far++) {
            LionRing x = alone(5, 9, 30, 30 - 6 * far, 35, none);
            Check.due("shortest(0, -1) of " + far, x.shortest(0, -1), far);
        }
        Check.due("of six", alone(5, 9, 31, 0, 35, none).shortest(0, -1), NEVER);
        shortestNever(alone(5, 9, 31, 0, 35, none));
        // it refuses in TENTH 0: five CELLS take six TENTHS
        LionRing late = alone(3, 9, 5, 0, 17, "yield 9 n=0;come 8 n=0");
        shortestNever(late);
        shortestNever(alone(0, 0, 0, 35, 14, ""));
        // its STOOL is near, but it never moves
        shortestNever(alone(0, 0, 0, 1, 14, ""));
        shortestNever(alone(3, 1, 14, 15, 16, "yield 9 n=0"));
    }

    /** "(-5: none, or it is over)" */
    private static void shortestIsOver() {
        shortestIs(alone(5, 9, 30, 31, 35, ""), 29);
        shortestIs(alone(5, 9, 30, 32, 35, ""), 29, 23);
        shortestIs(alone(5, 9, 30, 33, 35, ""), 29, 23, 17);
        shortestIs(alone(5, 9, 30, 34, 35, ""), 29, 23, 17, 11);
        shortestIs(alone(5, 9, 24, 29, 35, ""), 29, 23, 17, 11, 5);
    }

    /** "THE TAMER being CAUGHT at the end of no TENTH" */
    private static void shortestNeverCaught() {
        // it would come to 35, its STOOL, only if THE TAMER stayed there
        shortestNever(alone(2, 9, 34, 35, 35, ""));
        // by 15 it would come there at once, but THE TAMER would be CAUGHT; by 10 and 9 it would come to 8
        shortestIs(alone(2, 1, 14, 15, 16, ""), 22, 21);
    }

    /** CAUGHT at first is CAUGHT at the end of no TENTH */
    private static void shortestFromCaught() {
        LionRing x = new LionRing();
        x.tamer(1);
        x.beast(4, 0, 0, 0);
        x.beast(0, 0, 6, 0);
        Check.ring(x, "yield 1 n=0");
        Check.due("go(1): CORNERED comes", x.go(1), 0);
        // THE TAMER stays in 1, its own, and it yields to 0
        shortestIs(x, 1);
        x.set(0, 0, 2);
        shortestIs(x, 0);
    }

    /** "of several the first as a row of CELLS" */
    private static void shortestFirstAsARow() {
        // from anywhere TAUGHT goes to 1: the least of THE TAMER's CELLS is the first
        shortestIs(alone(5, 9, 0, 1, 21, ""), 15);
        shortestIs(alone(5, 9, 0, 1, 35, ""), 29);
        shortestIs(alone(5, 9, 0, 1, 5, ""), 4);
        shortestIs(alone(5, 9, 0, 6, 30, ""), 24);
        // 8 has a BEAST: THE TAMER can't go there as told
        LionRing x = alone(5, 9, 0, 1, 14, "");
        x.beast(0, 0, 8, 0);
        shortestIs(x, 13);
        x.beast(0, 0, 13, 0);
        shortestIs(x, 14);
        x.set(0, 0, 0);
        shortestIs(x);
    }

    /** "behind which that BEAST is on its STOOL": all may be where it was, a TENTH later, and yet go on otherwise */
    private static void shortestByTenths() {
        // it yields in TENTH 2 at first; from 15 it goes to 8, from 9 (the first row's CELL) it would go to 13
        shortestIs(alone(0, 0, 14, 8, 15, "yield 1 t>1"), 9, 9, 15);
        shortestIs(alone(0, 0, 14, 13, 15, "yield 1 t>1"), 9, 3, 9);
        shortestIs(alone(0, 0, 14, 13, 15, "yield 1 t=4"), 9, 3, 2, 2, 8);
        // REFUSING stays in TENTHS 0, 2 and 4
        shortestIs(alone(3, 2, 14, 8, 15, "yield 1 n=0"), 9, 15);
        shortestIs(alone(3, 2, 14, 2, 15, "yield 2 n=0"), 9, 15, 9, 9);
    }

    // ---- promise 15

    /** "-1001: NONE." */
    private static void seatsNone() {
        for (int what : new int[] {-2, 3, 5, 6, MOST, LEAST}) {
            Alike.refused(Scenes::rich, "seats(" + what + ")", x -> x.seats(what), -1001);
        }
        Check.due("seats(6) of six", Scenes.full().seats(6), -1001);
        LionRing x = new LionRing();
        x.beast(0, 0, 14, 0);
        x.beast(0, 0, 15, 0);
        x.enemies(0, 1, true);
        Check.due("seats(2): ahead of -5", x.seats(2), -1001);
    }

    /** "(0 without BEASTS)" */
    private static void seatsWithoutBeasts() {
        LionRing x = new LionRing();
        Check.due("seats(-1)", x.seats(-1), 0);
        for (int what = 0; what < 6; what++) {
            Check.due("seats(" + what + ")", x.seats(what), -1001);
        }
    }

    private static void seatsAre(LionRing x, int sum, int... stools) {
        Check.due("seats(-1)", x.seats(-1), sum);
        for (int i = 0; i < stools.length; i++) {
            Check.due("seats(" + i + ")", x.seats(i), stools[i]);
        }
    }

    /** "the row of STOOLS (each once, those that there are)", of one BEAST and of six */
    private static void seatsEachOnce() {
        LionRing x = new LionRing();
        x.beast(0, 0, 14, 0);
        seatsAre(x, 0, 14);
        x.set(0, 0, 35);
        seatsAre(x, 6, 35);
        x.beast(0, 0, 13, 0);
        // both are nearer to 13 than to 35
        seatsAre(x, 6, 35, 13);
        LionRing y = new LionRing();
        for (int i = 0; i < 6; i++) {
            y.beast(0, 0, i, 0);
        }
        seatsAre(y, 0, 0, 1, 2, 3, 4, 5);
        y.set(0, 0, 30);
        // one row down for each would be as good; the first as a row leaves BEAST 0 nearest
        Check.due("seats(-1)", y.seats(-1), 5);
        long held = 0;
        for (int i = 0; i < 6; i++) {
            held |= 1L << y.seats(i);
        }
        Check.due("each STOOL once", held, bits(1, 2, 3, 4, 5, 30));
    }

    /** "by which no two ENEMIES have STOOLS NEXT to one another" */
    private static void seatsOfEnemies() {
        int[] others = {8, 13, 15, 20, 7, 9, 19, 21, 2, 12, 16, 26};
        for (int i = 0; i < others.length; i++) {
            LionRing x = new LionRing();
            x.beast(0, 0, 14, 0);
            x.beast(0, 0, others[i], 0);
            x.enemies(1, 0, true);
            // at the slant, or two off, is not NEXT
            Check.due("seats(-1) of ENEMIES in 14 and " + others[i], x.seats(-1), i < 4 ? NEVER : 0);
            x.enemies(0, 1, false);
            Check.due("seats(-1): ENEMIES no more", x.seats(-1), 0);
        }
        // it is their STOOLS that matter, not their CELLS
        LionRing x = new LionRing();
        x.beast(0, 0, 14, 0);
        x.beast(0, 0, 15, 0);
        x.enemies(0, 1, true);
        x.set(0, 0, 12);
        x.set(1, 0, 17);
        seatsAre(x, 4, 12, 17);
        // the last two of six are ENEMIES
        LionRing y = new LionRing();
        for (int i = 0; i < 6; i++) {
            y.beast(0, 0, i, 0);
        }
        y.enemies(4, 5, true);
        seatsAre(y, 2, 0, 1, 2, 4, 3, 5);
    }

    /** "-5: none." */
    private static void seatsNever() {
        LionRing x = new LionRing();
        x.beast(0, 0, 0, 0);
        x.beast(0, 0, 1, 0);
        x.beast(0, 0, 6, 0);
        x.enemies(0, 1, true);
        x.enemies(1, 2, true);
        x.enemies(2, 0, true);
        for (int what = -1; what < 3; what++) {
            Check.due("seats(" + what + ")", x.seats(what), NEVER);
        }
        x.enemies(0, 2, false);
        for (int what = -1; what < 3; what++) {
            Check.due("seats(" + what + ")", x.seats(what), NEVER);
        }
        x.enemies(0, 1, false);
        // 1 and 6 are not NEXT to one another
        seatsAre(x, 0, 0, 1, 6);
    }

    /** "of several the first as a row (by CELLS)" */
    private static void seatsFirstAsARow() {
        LionRing x = new LionRing();
        x.beast(0, 0, 14, 0);
        x.beast(0, 0, 15, 0);
        x.set(0, 0, 33);
        x.set(1, 0, 3);
        // 14 to 3 and 15 to 33, or 14 to 33 and 15 to 3: 3 + 3 and 4 + 2
        seatsAre(x, 6, 3, 33);
        x.set(1, 0, 32);
        seatsAre(x, 6, 32, 33);
        LionRing y = new LionRing();
        y.beast(0, 0, 34, 0);
        y.beast(0, 0, 33, 0);
        y.beast(0, 0, 32, 0);
        y.set(0, 0, 0);
        y.set(1, 0, 1);
        y.set(2, 0, 2);
        // all rows sum to as much, as all are to go left and up
        seatsAre(y, 21, 0, 1, 2);
    }

    // ---- promise 16

    /** "behind how many TENTHS (0 .. 60) all BEASTS first are on their STOOLS at once": 0, without BEASTS, too */
    private static void sitAtOnce() {
        LionRing x = new LionRing();
        Check.due("sit() without BEASTS", x.sit(), 0);
        x.beast(2, 9, 30, 0);
        Check.due("sit(): it sits, though it would leave", x.sit(), 0);
        x.set(0, 0, 31);
        x.beast(2, 9, 0, 0);
        x.set(1, 0, 2);
        // BEAST 0 is on its STOOL behind 1, BEAST 1 behind 2: never at once
        Check.due("sit(): never at once", x.sit(), NEVER);
        x.set(1, 0, 1);
        Check.due("sit()", x.sit(), 1);
        x.set(0, 0, 32);
        x.set(1, 0, 2);
        Check.due("sit()", x.sit(), 2);
    }

    /** "(0 .. 60)", "(-5: never)" */
    private static void sitBySixty() {
        // it yields in TENTHS 0 and 60: from 21 to 15 to 9
        LionRing x = alone(0, 0, 21, 9, 35, "yield 9 t=0");
        Check.due("sit(): behind 61 it would", x.sit(), NEVER);
        x.go(1);
        Check.due("sit(): behind 60", x.sit(), 60);
        x.go(1);
        Check.due("sit(): behind 59", x.sit(), 59);
        x.go(58);
        Check.due("sit(): behind 1", x.sit(), 1);
        x.go(1);
        Check.due("sit(): behind 0", x.sit(), 0);
        Check.due("count(5)", x.count(5), 61);
    }

    /** THE TAMER "staying where it is", CAUGHT or not */
    private static void sitThoughCaught() {
        LionRing x = alone(2, 9, 31, 35, 35, "");
        Check.due("sit()", x.sit(), 4);
        x.beast(2, 9, 24, 0);
        x.set(1, 0, 29);
        // BEAST 1 comes to 29 behind 5, as BEAST 0 has been in 35 for a TENTH
        Check.due("sit()", x.sit(), 5);
        x.walk(29);
        Check.due("sit(): the WALK does not matter", x.sit(), 5);
    }

    // ---- promise 17

    /** "NONE." */
    private static void lineNone() {
        for (int beast : NO_BEASTS) {
            Alike.refused(Scenes::rich, "line(" + beast + ")", x -> x.line(beast), NONE);
        }
    }

    /** "FAR, at which that one first would leave its CELL (from the corner on ..)" */
    private static void lineFromTheCornerOn() {
        for (int yields = 1; yields <= 9; yields++) {
            LionRing x = alone(0, 0, 7, 7, 21, "yield " + yields + " n=0");
            // from 5 the row, then down: FAR is 4, 3, 2, 1
            Check.due("line(0) of 7, YIELDS " + yields, x.line(0), Math.min(4, yields));
        }
        // where THE TAMER is does not matter, not even if it is nearer
        Check.due("line(0)", alone(0, 0, 7, 7, 8, "yield 4 n=0").line(0), 4);
        Check.due("line(0) of COMING", alone(2, 2, 7, 7, 8, "").line(0), 2);
        Check.due("line(0) of FEIGNED", alone(6, 2, 7, 7, 8, "").line(0), 2);
        // TAUGHT would leave as long as THE TAMER is far
        Check.due("line(0) of TAUGHT", alone(5, 9, 7, 0, 35, "").line(0), 4);
        Check.due("line(0) of TAUGHT on its STOOL", alone(5, 9, 7, 7, 35, "").line(0), NEVER);
    }

    /** "-5: it would stay as long as FAR is 1 or more" */
    private static void lineFarOneOrMore() {
        Check.due("line(0) of MOVE", alone(0, 0, 7, 7, 35, "").line(0), NEVER);
        // at FAR 0 YIELDING would leave
        Check.due("line(0) of YIELDING", alone(1, 0, 7, 7, 35, "").line(0), NEVER);
        Check.due("line(0) of CORNERED", alone(4, 0, 7, 7, 35, "").line(0), NEVER);
        Check.due("line(0) of YIELDING, YIELDS 1", alone(1, 0, 7, 7, 35, "yield 1 n=0").line(0), 1);
        Check.due("line(0) of REFUSING", alone(3, 1, 7, 7, 35, "yield 9 n=0").line(0), NEVER);
        // FEIGNED does not come into THE TAMER's CELL; 5 to 11 to 10, 9, 8 is in its row
        Check.due("line(0) of FEIGNED, COMES 1", alone(6, 1, 8, 8, 0, "").line(0), NEVER);
        Check.due("line(0) of COMING, COMES 1", alone(2, 1, 8, 8, 0, "").line(0), 1);
        Check.due("line(0) of FEIGNED, COMES 2", alone(6, 2, 8, 8, 0, "").line(0), 2);
    }

    /** "from the corner CELL that is FARthest of it (of several the least)" */
    private static void lineLeastCorner() {
        int[][] corners = {{7, 5}, {10, 0}, {25, 0}, {28, 0}, {14, 5}, {15, 0}, {20, 0}, {21, 0}, {13, 5}, {16, 0},
            {8, 30}, {9, 30}, {26, 0}, {27, 0}, {19, 5}, {22, 0}, {3, 30}, {33, 0}, {12, 5}, {17, 0}};
        for (int[] c : corners) {
            int far = Math.max(Math.abs(c[0] / 6 - c[1] / 6), Math.abs(c[0] % 6 - c[1] % 6));
            LionRing x = alone(0, 0, c[0], c[0], c[0] == 35 ? 0 : 35, "yield 9 n=0");
            Check.due("line(0) of " + c[0], x.line(0), far);
            Check.due("the corner of " + c[0], leastCorner(c[0]), c[1]);
        }
    }

    /** The corner from which a COMING BEAST first sees THE TAMER: the one way to it is held by a BEAST. */
    private static int leastCorner(int cell) {
        int found = -1;
        for (int corner : new int[] {0, 5, 30, 35}) {
            LionRing x = alone(2, 9, cell, cell, cell == 35 ? 0 : 35, "");
            int rows = Integer.compare(corner / 6, cell / 6);
            int columns = Integer.compare(corner % 6, cell % 6);
            int far = x.line(0);
            if (rows != 0) {
                x.beast(3, 1, cell + 6 * rows, 0);
            }
            if (columns != 0) {
                x.beast(3, 1, cell + columns, 0);
            }
            // with both ways toward that corner held it does not see THE TAMER there
            if (x.line(0) != far) {
                found = found < 0 ? corner : 99;
            }
        }
        return found;
    }

    private static void lineOfOneInACorner() {
        for (int corner : new int[] {0, 5, 30, 35}) {
            LionRing x = alone(2, 9, corner, corner, 14, "");
            Check.due("line(0) of " + corner, x.line(0), 5);
            LionRing y = alone(2, 1, corner, corner, 14, "");
            Check.due("line(0) of " + corner + ", COMES 1", y.line(0), 1);
        }
    }

    /** "nobody else moving", "whoever is there" */
    private static void lineAsAllIs() {
        // from 5 down the column and then along the row of 12: a BEAST stands in the way
        LionRing x = alone(0, 0, 12, 12, 35, "yield 2 n=0;yield 9 n=1");
        x.beast(0, 0, 17, 0);
        x.beast(0, 0, 13, 0);
        Check.due("line(0)", x.line(0), 2);
        x.set(0, 0, 30);
        Check.due("of(1, 2)", x.of(1, 2), 17);
        // by the TENTH it is now
        LionRing y = alone(0, 0, 12, 12, 35, "yield 2 t=0;yield 3 t=1");
        Check.due("line(0) in TENTH 0", y.line(0), 2);
        y.go(1);
        Check.due("line(0) in TENTH 1", y.line(0), 3);
        y.go(1);
        Check.due("line(0) in TENTH 2", y.line(0), NEVER);
        LionRing z = alone(3, 2, 12, 12, 35, "yield 2 n=0");
        Check.due("line(0): it refuses in TENTH 0", z.line(0), NEVER);
        z.go(1);
        Check.due("line(0): not in TENTH 1", z.line(0), 2);
    }
}
