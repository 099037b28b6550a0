/** The boundary cases of TAPES (the terms' part 4), promises 22 and 29 to 32, a test for each sentence. */
public final class EdgeTapeTest {
    private static final int NONE = LionRing.NONE, BAD = LionRing.BAD;
    private static final int NEVER = -5, NOTHING = -11, CAST = -12, PLACE = -13, SIZE = -14;
    private static final long NO = LionRing.NO;
    private static final int MOST = Integer.MAX_VALUE, LEAST = Integer.MIN_VALUE;
    private static final int[] NO_TAPES = {-1, 6, MOST, LEAST};

    public static void main(String[] args) {
        tapesHoldNothingAtFirst();
        tapeNone();
        tapeBad();
        tapeSize();
        tapeFirstNamed();
        tapeFrom0To60();
        tapeAllZero();
        tapeHoldsNothing();
        itemNone();
        itemNothing();
        itemPlace();
        itemWraps();
        itemOfBooleans();
        itemsBesides();
        readNo();
        shiftNone();
        shiftNothing();
        shiftCast();
        shiftPlace();
        shiftToTheEnds();
        shiftOntoItself();
        shiftKeepsTheRest();
        judgeNone();
        judgeBad();
        judgeCast();
        judgeOfNoBeasts();
        judgeRowEnds();
        judgePlaceBelow0();
        judgeOfNothing();
        judgeFirstElsewhere();
        judgeBehindTenths();
        judgeThoughCaught();
        Check.end();
    }

    /** A TAPE 0 of a sort with items 1, 2, 3 and so on. */
    private static LionRing counting(int sort, int n) {
        LionRing x = new LionRing();
        x.tape(0, sort, n);
        for (int i = 0; i < n; i++) {
            x.item(0, i, i + 1);
        }
        return x;
    }

    private static String row(LionRing x, int tape) {
        StringBuilder row = new StringBuilder();
        for (int i = 0; x.read(tape, i) != NO; i++) {
            row.append(i == 0 ? "" : " ").append(x.read(tape, i));
        }
        return row.toString();
    }

    // ---- promise 29

    /** "TAPES 0 .. 5 hold nothing (at first)" */
    private static void tapesHoldNothingAtFirst() {
        LionRing x = new LionRing();
        for (int t = 0; t < 6; t++) {
            Check.due("read(" + t + ", 0)", x.read(t, 0), NO);
            Check.due("item(" + t + ", 0, 1)", x.item(t, 0, 1), NOTHING);
            Check.due("shift(" + t + ", 0, " + t + ", 0, 0)", x.shift(t, 0, t, 0, 0), NOTHING);
            Check.due("tape(" + t + ", 3, 1)", x.tape(t, 3, 1), 1);
            Check.due("read(" + t + ", 0)", x.read(t, 0), 0);
        }
    }

    private static void tapeIs(int tape, int sort, int n, int want) {
        String call = "tape(" + tape + ", " + sort + ", " + n + ")";
        Alike.refused(Scenes::rich, call, x -> x.tape(tape, sort, n), want);
    }

    /** "NONE: tape" */
    private static void tapeNone() {
        for (int tape : NO_TAPES) {
            tapeIs(tape, 0, 1, NONE);
            tapeIs(tape, -1, 1, NONE);
        }
    }

    /** "BAD: sort, n above 60" */
    private static void tapeBad() {
        for (int sort : new int[] {-2, 5, MOST, LEAST}) {
            tapeIs(0, sort, 1, BAD);
        }
        for (int sort = 0; sort < 5; sort++) {
            tapeIs(0, sort, 61, BAD);
            tapeIs(0, sort, MOST, BAD);
        }
    }

    /** "SIZE (-14): a size below 0" */
    private static void tapeSize() {
        for (int sort = 0; sort < 5; sort++) {
            tapeIs(0, sort, -1, SIZE);
            tapeIs(0, sort, LEAST, SIZE);
        }
    }

    /** "the first that a call's words name" */
    private static void tapeFirstNamed() {
        tapeIs(6, 5, 61, NONE);
        tapeIs(6, 0, -1, NONE);
        tapeIs(0, 5, -1, BAD);
        tapeIs(0, -2, -1, BAD);
        tapeIs(0, 5, 61, BAD);
    }

    /** "a row of n (0 .. 60)" */
    private static void tapeFrom0To60() {
        for (int sort = 0; sort < 5; sort++) {
            LionRing x = new LionRing();
            for (int n : new int[] {0, 1, 59, 60}) {
                Check.due("tape(5, " + sort + ", " + n + ")", x.tape(5, sort, n), 1);
                Check.due("read(5, " + (n - 1) + ")", x.read(5, n - 1), n == 0 ? NO : 0);
                Check.due("read(5, " + n + ")", x.read(5, n), NO);
                Check.due("item(5, " + n + ", 1)", x.item(5, n, 1), PLACE);
                Check.due("item(5, " + (n - 1) + ", 1)", x.item(5, n - 1, 1), n == 0 ? PLACE : 1);
            }
        }
    }

    /** "all 0", whatever was there, of the same size, a smaller or a greater one */
    private static void tapeAllZero() {
        LionRing x = counting(2, 60);
        x.tape(0, 2, 60);
        for (int i = 0; i < 60; i++) {
            Check.due("read(0, " + i + ")", x.read(0, i), 0);
        }
        LionRing y = counting(3, 60);
        y.tape(0, 4, 2);
        Check.due("tape 0", row(y, 0), "0 0");
        y.tape(0, 3, 60);
        for (int i = 0; i < 60; i++) {
            Check.due("read(0, " + i + ")", y.read(0, i), 0);
        }
    }

    /** "or holds nothing (sort -1: n does not matter): 1" */
    private static void tapeHoldsNothing() {
        for (int n : new int[] {0, 1, 60, 61, -1, MOST, LEAST}) {
            LionRing x = counting(0, 3);
            Check.due("tape(0, -1, " + n + ")", x.tape(0, -1, n), 1);
            Check.due("read(0, 0)", x.read(0, 0), NO);
            Check.due("item(0, 0, 1)", x.item(0, 0, 1), NOTHING);
            Check.due("tape(0, -1, " + n + ") once more", x.tape(0, -1, n), 1);
            Check.due("tape(0, 0, 3)", x.tape(0, 0, 3), 1);
            Check.due("tape 0: all 0 again", row(x, 0), "0 0 0");
        }
    }

    // ---- promise 30

    private static void itemIs(int tape, int i, int want) {
        Alike.refused(Scenes::rich, "item(" + tape + ", " + i + ", 5)", x -> x.item(tape, i, 5), want);
    }

    /** "NONE" */
    private static void itemNone() {
        for (int tape : NO_TAPES) {
            itemIs(tape, 0, NONE);
            itemIs(tape, -1, NONE);
        }
    }

    /** "NOTHING" */
    private static void itemNothing() {
        for (int tape = 2; tape < 6; tape++) {
            itemIs(tape, 0, NOTHING);
            itemIs(tape, -1, NOTHING);
            itemIs(tape, MOST, NOTHING);
        }
    }

    /** "PLACE" */
    private static void itemPlace() {
        for (int i : new int[] {-1, 3, 60, MOST, LEAST}) {
            itemIs(0, i, PLACE);
            itemIs(1, i, PLACE);
        }
        itemIs(1, 2, PLACE);
        Check.due("item(0, 2, 5)", Scenes.rich().item(0, 2, 5), 1);
        Check.due("item(1, 1, 5)", Scenes.rich().item(1, 1, 5), 1);
    }

    private static void wraps(int sort, long v, long want) {
        LionRing x = new LionRing();
        x.tape(3, sort, 1);
        Check.due("item(3, 0, " + v + ")", x.item(3, 0, v), 1);
        Check.due("read(3, 0) of sort " + sort + ", v " + v, x.read(3, 0), want);
    }

    /** "its lowest bits, as many as an item has" */
    private static void itemWraps() {
        for (int sort = 0; sort < 4; sort++) {
            int bits = 8 << sort;
            long most = (1L << bits - 1) - 1;
            wraps(sort, 0, 0);
            wraps(sort, -1, -1);
            wraps(sort, most, most);
            // of longs the next one is the least, too
            wraps(sort, most + 1, -most - 1);
            wraps(sort, -most - 1, -most - 1);
            wraps(sort, -most - 2, most);
            if (sort < 3) {
                wraps(sort, 1L << bits, 0);
                wraps(sort, (1L << bits) - 1, -1);
                wraps(sort, (1L << bits) + 7, 7);
                wraps(sort, Long.MAX_VALUE, -1);
                wraps(sort, Long.MIN_VALUE, 0);
                wraps(sort, Long.MIN_VALUE + 5, 5);
            }
        }
        wraps(3, Long.MAX_VALUE, Long.MAX_VALUE);
        wraps(3, Long.MIN_VALUE, Long.MIN_VALUE);
        wraps(3, 1L << 32, 1L << 32);
    }

    /** "booleans: whether v is not 0" */
    private static void itemOfBooleans() {
        wraps(4, 0, 0);
        long[] set = {1, 2, -1, 256, 1L << 32, Long.MIN_VALUE, Long.MAX_VALUE};
        for (long v : set) {
            wraps(4, v, 1);
        }
        LionRing x = counting(4, 3);
        x.item(0, 1, 0);
        Check.due("tape 0", row(x, 0), "1 0 1");
    }

    private static void itemsBesides() {
        LionRing x = counting(0, 60);
        x.item(0, 0, -7);
        x.item(0, 59, -8);
        for (int i = 0; i < 60; i++) {
            Check.due("read(0, " + i + ")", x.read(0, i), i == 0 ? -7 : i == 59 ? -8 : i + 1);
        }
    }

    // ---- promise 31

    /** "NO: no such TAPE, nothing there, no such place." */
    private static void readNo() {
        for (int tape : NO_TAPES) {
            Alike.refused(Scenes::rich, "read(" + tape + ", 0)", x -> x.read(tape, 0), NO);
        }
        for (int tape = 2; tape < 6; tape++) {
            int t = tape;
            Alike.refused(Scenes::rich, "read(" + t + ", 0)", x -> x.read(t, 0), NO);
        }
        for (int i : new int[] {-1, 3, MOST, LEAST}) {
            Alike.refused(Scenes::rich, "read(0, " + i + ")", x -> x.read(0, i), NO);
        }
        LionRing x = counting(0, 60);
        Check.due("read(0, 0)", x.read(0, 0), 1);
        Check.due("read(0, 59)", x.read(0, 59), 60);
        Check.due("read(0, 60)", x.read(0, 60), NO);
        // an item may be that number itself
        wraps(3, NO, NO);
    }

    // ---- promise 32

    private static LionRing three() {
        LionRing x = counting(1, 5);
        x.tape(1, 1, 3);
        x.tape(2, 2, 5);
        x.tape(3, 1, 0);
        return x;
    }

    private static void shiftIs(int tape, int i, int other, int j, int n, int want) {
        String call = "shift(" + tape + ", " + i + ", " + other + ", " + j + ", " + n + ")";
        Alike.refused(EdgeTapeTest::three, call, x -> x.shift(tape, i, other, j, n), want);
    }

    /** "NONE: tapes" */
    private static void shiftNone() {
        for (int tape : NO_TAPES) {
            shiftIs(tape, 0, 0, 0, 1, NONE);
            shiftIs(0, 0, tape, 0, 1, NONE);
            shiftIs(tape, 0, tape, 0, 1, NONE);
            // also when the other one holds nothing, or the places are none
            shiftIs(tape, 0, 5, 0, 1, NONE);
            shiftIs(5, 0, tape, 0, 1, NONE);
            shiftIs(0, -1, tape, -1, -1, NONE);
        }
    }

    /** "NOTHING" */
    private static void shiftNothing() {
        shiftIs(0, 0, 5, 0, 1, NOTHING);
        shiftIs(5, 0, 0, 0, 1, NOTHING);
        shiftIs(5, 0, 5, 0, 1, NOTHING);
        shiftIs(4, 0, 5, 0, 0, NOTHING);
        shiftIs(0, -1, 5, -1, -1, NOTHING);
    }

    /** "CAST: of unlike sorts" */
    private static void shiftCast() {
        shiftIs(0, 0, 2, 0, 1, CAST);
        shiftIs(2, 0, 0, 0, 1, CAST);
        shiftIs(0, 0, 2, 0, 0, CAST);
        shiftIs(0, -1, 2, 0, 1, CAST);
        shiftIs(0, 0, 2, 9, 1, CAST);
        for (int a = 0; a < 5; a++) {
            for (int b = 0; b < 5; b++) {
                LionRing x = counting(a, 2);
                x.tape(1, b, 2);
                Check.due("shift of sorts " + a + " and " + b, x.shift(0, 0, 1, 0, 2), a == b ? 2 : CAST);
                Check.due("read(1, 1)", x.read(1, 1), a != b ? 0 : a == 4 ? 1 : 2);
            }
        }
    }

    /** "PLACE: n, i or j is below 0, or beyond either's end" */
    private static void shiftPlace() {
        for (int low : new int[] {-1, LEAST}) {
            shiftIs(0, low, 1, 0, 1, PLACE);
            shiftIs(0, 0, 1, low, 1, PLACE);
            shiftIs(0, 0, 1, 0, low, PLACE);
            shiftIs(0, low, 1, 0, 0, PLACE);
            shiftIs(0, 0, 1, low, 0, PLACE);
            shiftIs(0, 0, 0, 0, low, PLACE);
            shiftIs(0, low, 1, low, low, PLACE);
        }
        // TAPE 0 has 5 items, TAPE 1 has 3, TAPE 3 has none
        shiftIs(0, 0, 1, 0, 4, PLACE);
        shiftIs(0, 0, 1, 1, 3, PLACE);
        shiftIs(0, 0, 1, 3, 1, PLACE);
        shiftIs(0, 0, 1, 4, 0, PLACE);
        shiftIs(1, 0, 0, 0, 4, PLACE);
        shiftIs(1, 1, 0, 0, 3, PLACE);
        shiftIs(1, 3, 0, 0, 1, PLACE);
        shiftIs(1, 4, 0, 0, 0, PLACE);
        shiftIs(0, 5, 0, 0, 1, PLACE);
        shiftIs(0, 0, 0, 5, 1, PLACE);
        shiftIs(0, 6, 0, 0, 0, PLACE);
        shiftIs(3, 0, 0, 0, 1, PLACE);
        shiftIs(0, 0, 3, 0, 1, PLACE);
        shiftIs(3, 1, 3, 0, 0, PLACE);
        // sums that would wrap
        shiftIs(0, 1, 1, 0, MOST, PLACE);
        shiftIs(0, 0, 1, 1, MOST, PLACE);
        shiftIs(0, MOST, 1, 0, 1, PLACE);
        shiftIs(0, 0, 1, MOST, 1, PLACE);
        shiftIs(0, MOST, 1, MOST, MOST, PLACE);
        shiftIs(0, MOST, 0, MOST, 2, PLACE);
        shiftIs(0, LEAST, 1, 0, MOST, PLACE);
    }

    /** a part may begin at the end, if it is of none, and end there */
    private static void shiftToTheEnds() {
        LionRing x = three();
        Check.due("shift(0, 5, 1, 3, 0)", x.shift(0, 5, 1, 3, 0), 0);
        Check.due("shift(0, 0, 1, 0, 0)", x.shift(0, 0, 1, 0, 0), 0);
        Check.due("shift(3, 0, 3, 0, 0)", x.shift(3, 0, 3, 0, 0), 0);
        Check.due("shift(0, 5, 3, 0, 0)", x.shift(0, 5, 3, 0, 0), 0);
        Check.due("tape 0", row(x, 0), "1 2 3 4 5");
        Check.due("tape 1", row(x, 1), "0 0 0");
        Check.due("shift(0, 4, 1, 2, 1)", x.shift(0, 4, 1, 2, 1), 1);
        Check.due("tape 1", row(x, 1), "0 0 5");
        Check.due("shift(0, 2, 1, 0, 3)", x.shift(0, 2, 1, 0, 3), 3);
        Check.due("tape 1", row(x, 1), "3 4 5");
        LionRing y = counting(3, 60);
        y.tape(1, 3, 60);
        Check.due("shift(0, 0, 1, 0, 60)", y.shift(0, 0, 1, 0, 60), 60);
        Check.due("tape 1", row(y, 1), row(y, 0));
    }

    /** "(or the same)", "as they all were before" */
    private static void shiftOntoItself() {
        String[] due = {"1 2 3 4 5", "1 1 2 3 4", "1 2 1 2 3", "1 2 3 1 2", "1 2 3 4 1"};
        for (int j = 0; j < 5; j++) {
            LionRing x = counting(1, 5);
            Check.due("shift(0, 0, 0, " + j + ", " + (5 - j) + ")", x.shift(0, 0, 0, j, 5 - j), 5 - j);
            Check.due("tape 0", row(x, 0), due[j]);
        }
        String[] back = {"1 2 3 4 5", "2 3 4 5 5", "3 4 5 4 5", "4 5 3 4 5", "5 2 3 4 5"};
        for (int i = 0; i < 5; i++) {
            LionRing x = counting(1, 5);
            Check.due("shift(0, " + i + ", 0, 0, " + (5 - i) + ")", x.shift(0, i, 0, 0, 5 - i), 5 - i);
            Check.due("tape 0", row(x, 0), back[i]);
        }
    }

    private static void shiftKeepsTheRest() {
        LionRing x = three();
        x.item(1, 0, -1);
        x.item(1, 2, -3);
        Check.due("shift(0, 3, 1, 1, 1)", x.shift(0, 3, 1, 1, 1), 1);
        Check.due("tape 1", row(x, 1), "-1 4 -3");
        Check.due("tape 0", row(x, 0), "1 2 3 4 5");
        // they are not the same items from then on
        x.item(0, 3, 9);
        Check.due("tape 1", row(x, 1), "-1 4 -3");
    }

    // ---- promise 22

    private static void judgeIs(int tape, int i, int n, int want) {
        String call = "judge(" + tape + ", " + i + ", " + n + ")";
        Alike.refused(Scenes::rich, call, x -> x.judge(tape, i, n), want);
    }

    /** "NONE: tape" */
    private static void judgeNone() {
        for (int tape : NO_TAPES) {
            judgeIs(tape, 0, 0, NONE);
            judgeIs(tape, -1, 61, NONE);
        }
    }

    /** "n TENTHS (0 .. 60", "BAD" */
    private static void judgeBad() {
        for (int n : new int[] {-1, 61, MOST, LEAST}) {
            judgeIs(0, 0, n, BAD);
            judgeIs(1, 0, n, BAD);
            judgeIs(5, -1, n, BAD);
        }
        Check.due("judge(0, 0, 61) without BEASTS", new LionRing().judge(0, 0, 61), BAD);
        Check.due("judge(0, 0, 60) without BEASTS", new LionRing().judge(0, 0, 60), NEVER);
    }

    /** "CAST: it is no row of bytes" */
    private static void judgeCast() {
        judgeIs(1, 0, 0, CAST);
        judgeIs(1, -1, 0, CAST);
        for (int sort = 0; sort < 5; sort++) {
            LionRing x = new LionRing();
            x.tape(0, sort, 0);
            Check.due("judge(0, 0, 0) of sort " + sort, x.judge(0, 0, 0), sort == 0 ? NEVER : CAST);
        }
    }

    /** "-5: none, or there is none to look at" */
    private static void judgeOfNoBeasts() {
        LionRing x = new LionRing();
        Check.due("judge(0, 0, 0): nothing is there", x.judge(0, 0, 0), NEVER);
        x.tape(0, 0, 0);
        Check.due("judge(0, 0, 0): the row is at its end", x.judge(0, 0, 0), NEVER);
        x.tape(0, 0, 2);
        Check.due("judge(0, 0, 0)", x.judge(0, 0, 0), NEVER);
        Check.due("judge(0, 2, 0)", x.judge(0, 2, 0), NEVER);
        Check.due("judge(0, -1, 0)", x.judge(0, -1, 0), NEVER);
    }

    private static LionRing told(int... cells) {
        LionRing x = new LionRing();
        x.beast(0, 0, 5, 0);
        x.beast(0, 0, 0, 0);
        x.beast(0, 0, 30, 0);
        x.tape(4, 0, cells.length);
        for (int i = 0; i < cells.length; i++) {
            x.item(4, i, cells[i]);
        }
        return x;
    }

    /** "100 and how many were looked at, if the row ends ahead of that" */
    private static void judgeRowEnds() {
        Check.due("of 0 items", told().judge(4, 0, 0), 100);
        Check.due("of 1 item", told(5).judge(4, 0, 0), 101);
        Check.due("of 2 items", told(5, 0).judge(4, 0, 0), 102);
        Check.due("of 3 items", told(5, 0, 30).judge(4, 0, 0), NEVER);
        Check.due("of 4 items", told(5, 0, 30, 9).judge(4, 0, 0), NEVER);
        Check.due("from 1", told(9, 5, 0).judge(4, 1, 0), 102);
        Check.due("from 2", told(9, 9, 5).judge(4, 2, 0), 101);
        Check.due("from 3, the end", told(9, 9, 9).judge(4, 3, 0), 100);
        Check.due("from 4, beyond it", told(9, 9, 9).judge(4, 4, 0), 100);
        Check.due("from MOST", told(5, 0, 30).judge(4, MOST, 0), 100);
        Check.due("from MOST - 1", told(5, 0, 30).judge(4, MOST - 1, 0), 100);
        LionRing x = new LionRing();
        x.beast(0, 0, 0, 0);
        x.tape(1, 0, 60);
        Check.due("the last of 60", x.judge(1, 59, 0), NEVER);
        Check.due("behind it", x.judge(1, 60, 0), 100);
        x.beast(0, 0, 1, 0);
        Check.due("the last of 60, two BEASTS", x.judge(1, 59, 0), 101);
    }

    /** "(or the place is below 0" */
    private static void judgePlaceBelow0() {
        Check.due("from -1", told(5, 0, 30).judge(4, -1, 0), 100);
        Check.due("from LEAST", told(5, 0, 30).judge(4, LEAST, 0), 100);
        Check.due("from -1 of none", told().judge(4, -1, 0), 100);
    }

    /** "or the TAPE holds nothing)" */
    private static void judgeOfNothing() {
        Check.due("nothing ever", told(5, 0, 30).judge(3, 0, 0), 100);
        Check.due("nothing, a place below 0", told(5, 0, 30).judge(3, -1, 0), 100);
        LionRing x = told(5, 0, 30);
        x.tape(4, -1, 3);
        Check.due("nothing any more", x.judge(4, 0, 0), 100);
        Check.due("nothing any more, behind TENTHS", x.judge(4, 0, 60), 100);
    }

    /** "the first BEAST that is elsewhere" */
    private static void judgeFirstElsewhere() {
        Check.due("all elsewhere", told(6, 1, 31).judge(4, 0, 0), 0);
        Check.due("the last two", told(5, 1, 31).judge(4, 0, 0), 1);
        Check.due("the last one", told(5, 0, 31).judge(4, 0, 0), 2);
        Check.due("ahead of the end", told(5, 1).judge(4, 0, 0), 1);
        Check.due("the first of a row of one", told(6).judge(4, 0, 0), 0);
        // numbers that are no CELLS: a byte has a sign
        Check.due("261 is 5", told(261, 256, 30).judge(4, 0, 0), NEVER);
        Check.due("-5", told(-5, 0, 30).judge(4, 0, 0), 0);
        Check.due("5 - 128", told(5 - 128, 0, 30).judge(4, 0, 0), 0);
        Check.due("36", told(36, 0, 30).judge(4, 0, 0), 0);
        Check.due("in another BEAST's CELL", told(0, 5, 30).judge(4, 0, 0), 0);
    }

    /** "behind n TENTHS (0 .. 60", "THE TAMER staying" */
    private static void judgeBehindTenths() {
        LionRing x = new LionRing();
        x.beast(0, 0, 21, 0);
        Check.ring(x, "yield 9 t=59");
        x.tape(0, 0, 2);
        x.item(0, 0, 21);
        x.item(0, 1, 15);
        x.walk(29);
        Check.due("behind 0", x.judge(0, 0, 0), NEVER);
        Check.due("behind 59", x.judge(0, 0, 59), NEVER);
        Check.due("behind 60", x.judge(0, 0, 60), 0);
        Check.due("behind 60, in 15", x.judge(0, 1, 60), NEVER);
        Check.due("behind 59, in 15", x.judge(0, 1, 59), 0);
    }

    /** "also if THE TAMER is CAUGHT)" */
    private static void judgeThoughCaught() {
        LionRing x = new LionRing();
        x.tamer(1);
        x.beast(4, 0, 0, 0);
        x.beast(3, 1, 6, 0);
        Check.ring(x, "yield 1 n=0");
        x.tape(0, 0, 4);
        x.item(0, 0, 0);
        x.item(0, 1, 6);
        x.item(0, 2, 1);
        x.item(0, 3, 6);
        // CORNERED comes into 1, yields back to 0, and so on, though THE TAMER is CAUGHT
        for (int n = 0; n <= 60; n++) {
            Check.due("judge(0, 0, " + n + ")", x.judge(0, 0, n), n % 2 == 0 ? NEVER : 0);
            Check.due("judge(0, 2, " + n + ")", x.judge(0, 2, n), n % 2 == 1 ? NEVER : 0);
        }
    }
}
