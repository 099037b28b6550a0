/** The boundary cases of KINDS and of a TENTH (the terms' part 2), and of promise 9, a test for each sentence. */
public final class EdgeTenthTest {
    private static final int BAD = LionRing.BAD, NEVER = -5;
    private static final int MOST = Integer.MAX_VALUE, LEAST = Integer.MIN_VALUE;
    /** YIELDS 4, COMES 2. */
    private static final String LINES = "yield 4 n=0;come 2 n=0";

    public static void main(String[] args) {
        farOfTheLines();
        farIsTheGreater();
        caughtIsFar0();
        caughtAndShutIn();
        comingAboveYields();
        refusingMultiples();
        refusingTenthsBeyond60();
        corneredWithoutACell();
        taughtNoFartherThanV();
        taughtBeyondBothLines();
        feignedBesideTheTamer();
        yieldsToTheLeastCell();
        comesToTheLeastCell();
        goesTowardItsStool();
        neverIntoTheTamersCell();
        noneInACellWithABeast();
        eachByHowAllIsThen();
        goBad();
        goEndsWhenCaught();
        goFromCaught();
        goWithoutBeasts();
        goLeavesTheRest();
        Check.end();
    }

    /** Where a BEAST is behind a TENTH. */
    private static int behindOne(LionRing x, int beast) {
        x.go(1);
        return x.of(beast, 2);
    }

    // ---- KINDS

    /**
     * A BEAST in 12, THE TAMER FAR 1 to 5 in its row: a row of what it does at each (c: comes, y: yields, s: stays,
     * h: goes toward its STOOL).
     */
    private static void doesAtEachFar(String text, int kind, int v, String deeds) {
        for (int far = 1; far <= 5; far++) {
            LionRing x = new LionRing();
            x.tamer(12 + far);
            x.beast(kind, v, 12, 0);
            x.set(0, 0, 30);
            Check.due("reading " + text, Check.ring(x, text), 0);
            char deed = deeds.charAt(far - 1);
            String call = "KIND " + kind + " v " + v + ", FAR " + far + " by " + text;
            Check.due("of(0, 7): " + call, x.of(0, 7), "sych".indexOf(deed));
            Check.due("then: " + call, behindOne(x, 0), deed == 'c' ? 13 : deed == 'y' ? 6 : deed == 'h' ? 18 : 12);
        }
    }

    /** "if FAR is no more than COMES, it comes; else if FAR is no more than YIELDS, it yields; else it stays" */
    private static void farOfTheLines() {
        doesAtEachFar(LINES, 0, 0, "ccyys");
        doesAtEachFar(LINES, 1, 0, "yyyys");
        doesAtEachFar(LINES, 2, 0, "ccyys");
        doesAtEachFar(LINES, 3, 0, "ccyys");
        doesAtEachFar(LINES, 3, 1, "sssss");
        doesAtEachFar(LINES, 4, 0, "yyyys");
        doesAtEachFar(LINES, 5, 0, "yyyys");
        doesAtEachFar(LINES, 6, 0, "scyys");
        doesAtEachFar("yield 1 n=0", 0, 0, "yssss");
        doesAtEachFar("yield 2 n=0;come 1 n=0", 0, 0, "cysss");
        doesAtEachFar("yield 5 n=0;come 4 n=0", 0, 0, "ccccy");
        doesAtEachFar("yield 9 n=0;come 8 n=0", 0, 0, "ccccc");
        doesAtEachFar("yield 9 n=0;come 8 n=0", 1, 0, "yyyyy");
        doesAtEachFar("loud 9", 0, 9, "sssss");
    }

    /** "FAR of two CELLS: the greater of how many rows and how many columns they are apart." */
    private static void farIsTheGreater() {
        // 12 is in row 2, column 0: THE TAMER two rows and two columns off, then more of one of them
        int[] tamers = {26, 32, 27, 1, 2, 3};
        int[] deeds = {2, 1, 1, 2, 2, 1};
        for (int i = 0; i < tamers.length; i++) {
            LionRing x = new LionRing();
            x.tamer(tamers[i]);
            x.beast(0, 0, 12, 0);
            Check.ring(x, LINES);
            Check.due("THE TAMER in " + tamers[i], x.of(0, 7), deeds[i]);
        }
    }

    /** THE TAMER is CAUGHT by a BEAST in its CELL 35: which KINDS would go so. */
    private static void caughtThen(String text, int cell, int kinds, int... others) {
        LionRing x = new LionRing();
        x.beast(2, 9, 34, 0);
        Check.due("go(1)", x.go(1), 0);
        x.set(0, 0, 33);
        for (int c : others) {
            Check.due("beast in " + c, x.beast(0, 0, c, 0) > 0 ? 1 : 0, 1);
        }
        if (!text.isEmpty()) {
            Check.ring(x, text);
        }
        x.film(cell);
        Check.due("kinds(0) of one in THE TAMER's CELL to " + cell + " by " + text, x.kinds(0), kinds);
    }

    /** FAR 0 is no more than COMES 0: what comes stays, what yields leaves THE TAMER's CELL */
    private static void caughtIsFar0() {
        int yielding = 2 + 16 + 32;
        caughtThen("", 29, yielding);
        caughtThen("", 35, 127 - yielding);
        caughtThen("", 34, 0);
        caughtThen("yield 4 n=0", 29, yielding);
        caughtThen("yield 4 n=0;come 3 n=0", 35, 127 - yielding);
        caughtThen("", 34, yielding, 29);
    }

    /** "CORNERED: .. it comes, if it would yield and there is no CELL to yield to": in THE TAMER's CELL it stays */
    private static void caughtAndShutIn() {
        caughtThen("", 35, 127, 29, 34);
        caughtThen("yield 4 n=0;come 3 n=0", 35, 127, 29, 34);
    }

    /** "COMING: as MOVE, with COMES v more (also above YIELDS)" */
    private static void comingAboveYields() {
        doesAtEachFar(LINES, 2, 1, "cccys");
        doesAtEachFar(LINES, 2, 2, "ccccs");
        doesAtEachFar(LINES, 2, 3, "ccccc");
        doesAtEachFar(LINES, 2, 9, "ccccc");
        doesAtEachFar("yield 1 n=0", 2, 2, "ccsss");
        doesAtEachFar("loud 1", 2, 4, "ccccs");
        doesAtEachFar(LINES, 6, 1, "sccys");
        doesAtEachFar(LINES, 6, 2, "scccs");
        doesAtEachFar("loud 1", 6, 1, "sssss");
        doesAtEachFar("loud 1", 6, 2, "scsss");
        // v is no more of COMES for the others
        doesAtEachFar(LINES, 0, 9, "ccyys");
        doesAtEachFar(LINES, 1, 9, "yyyys");
        doesAtEachFar(LINES, 4, 9, "yyyys");
    }

    /** "REFUSING: .. it stays in each TENTH that is a multiple of v (v 0: never)"; 0 is one of each v */
    private static void refusingMultiples() {
        for (int v = 0; v <= 9; v++) {
            LionRing x = new LionRing();
            x.beast(3, v, 0, 0);
            Check.ring(x, "yield 9 n=0;come 8 n=0");
            x.tamer(21);
            for (int tenth = 0; tenth < 40; tenth++) {
                boolean stays = v > 0 && tenth % v == 0;
                Check.due("v " + v + " in TENTH " + tenth, x.of(0, 7) != 0 ? 1 : 0, stays ? 0 : 1);
                int from = x.of(0, 2);
                x.go(1);
                Check.due("v " + v + " behind TENTH " + tenth, x.of(0, 2) != from ? 1 : 0, stays ? 0 : 1);
                // THE TAMER goes to and fro, so that it is never CAUGHT and always to be come to
                x.tamer(x.of(0, 2) < 18 ? 35 : 0);
            }
        }
    }

    /** a TENTH is not counted modulo 60 there */
    private static void refusingTenthsBeyond60() {
        for (int v = 1; v <= 9; v++) {
            LionRing x = new LionRing();
            x.beast(3, v, 0, 0);
            x.go(60);
            Check.ring(x, "yield 9 n=0;come 8 n=0");
            for (int tenth = 60; tenth < 80; tenth++) {
                x.tamer(x.of(0, 2) < 18 ? 35 : 0);
                Check.due("v " + v + " in TENTH " + tenth, x.of(0, 7) != 0 ? 1 : 0, tenth % v == 0 ? 0 : 1);
                x.go(1);
            }
        }
    }

    private static void cornered(int kind, int tamer, int cell, int deed, int then, int... others) {
        LionRing x = new LionRing();
        x.tamer(tamer);
        x.beast(kind, 0, cell, 0);
        for (int c : others) {
            x.beast(0, 0, c, 0);
        }
        Check.ring(x, "yield 2 n=0");
        String call = "KIND " + kind + " in " + cell + ", THE TAMER in " + tamer + ", others " + others.length;
        Check.due("of(0, 7): " + call, x.of(0, 7), deed);
        Check.due("then: " + call, behindOne(x, 0), then);
    }

    /** "CORNERED: as YIELDING, but it comes, if it would yield and there is no CELL to yield to." */
    private static void corneredWithoutACell() {
        cornered(4, 14, 0, 2, 1);
        cornered(1, 14, 0, 0, 0);
        cornered(5, 14, 0, 0, 0);
        // it would not yield: too far
        cornered(4, 15, 0, 0, 0);
        // a CELL to yield to is left, then none
        cornered(4, 2, 0, 1, 6);
        cornered(4, 2, 0, 2, 1, 6);
        cornered(1, 2, 0, 0, 0, 6);
        // none to come into either
        cornered(4, 2, 0, 0, 0, 6, 1);
        cornered(4, 14, 0, 2, 6, 1);
        // away from the edge, shut in by BEASTS alone
        cornered(4, 16, 14, 1, 20, 8, 13);
        cornered(4, 16, 14, 2, 15, 8, 13, 20);
        cornered(4, 15, 14, 2, 15, 8, 13, 20);
        cornered(4, 16, 14, 0, 14, 8, 13, 20, 15);
    }

    private static void taught(int v, int cell, int stool, int deed, int then) {
        LionRing x = new LionRing();
        x.beast(5, v, cell, 0);
        x.set(0, 0, stool);
        String call = "TAUGHT v " + v + " in " + cell + ", STOOL " + stool;
        Check.due("of(0, 7): " + call, x.of(0, 7), deed);
        Check.due("then: " + call, behindOne(x, 0), then);
    }

    /** "it goes toward its STOOL, if that is no farther than v" */
    private static void taughtNoFartherThanV() {
        for (int far = 1; far <= 5; far++) {
            for (int v = 0; v <= 9; v++) {
                boolean goes = far <= v;
                taught(v, 0, far, goes ? 3 : 0, goes ? 1 : 0);
                taught(v, 0, 6 * far, goes ? 3 : 0, goes ? 6 : 0);
                if (far < 5) {
                    // as FAR at the slant, though twice as many CELLS to go
                    taught(v, 0, 7 * far, goes ? 3 : 0, goes ? 1 : 0);
                }
            }
        }
        // on its STOOL it stays
        taught(0, 7, 7, 0, 7);
        taught(9, 7, 7, 0, 7);
    }

    /** "but if FAR is more than COMES and YIELDS": else it yields, or stays when it can't */
    private static void taughtBeyondBothLines() {
        doesAtEachFar(LINES, 5, 3, "yyyyh");
        doesAtEachFar(LINES, 5, 2, "yyyys");
        doesAtEachFar("yield 1 n=0", 5, 3, "yhhhh");
        doesAtEachFar("loud 1", 5, 3, "hhhhh");
        doesAtEachFar("yield 5 n=0", 5, 3, "yyyyy");
        // it would yield, but there is no CELL to yield to: it does not go toward its STOOL then
        LionRing x = new LionRing();
        x.tamer(14);
        x.beast(5, 9, 0, 0);
        x.set(0, 0, 1);
        Check.ring(x, "yield 2 n=0");
        Check.due("of(0, 7)", x.of(0, 7), 0);
        Check.due("then", behindOne(x, 0), 0);
    }

    /** "FEIGNED: as COMING, but it never comes into THE TAMER's CELL (it stays)." */
    private static void feignedBesideTheTamer() {
        for (int tamer : new int[] {8, 13, 15, 20}) {
            LionRing x = new LionRing();
            x.tamer(tamer);
            x.beast(6, 9, 14, 0);
            Check.ring(x, LINES);
            Check.due("of(0, 7), THE TAMER in " + tamer, x.of(0, 7), 0);
            Check.due("go(60)", x.go(60), NEVER);
            Check.due("of(0, 2): it stays", x.of(0, 2), 14);
        }
        // at the slant it is FAR 1, too, but no CELL there is THE TAMER's
        LionRing x = new LionRing();
        x.tamer(21);
        x.beast(6, 9, 14, 0);
        Check.due("of(0, 7)", x.of(0, 7), 2);
        Check.due("then", behindOne(x, 0), 15);
        Check.due("then it stays", behindOne(x, 0), 15);
    }

    // ---- to yield, to come, to go

    private static void goesTo(int kind, String text, int cell, int tamer, int then, int... others) {
        LionRing x = new LionRing();
        x.tamer(tamer);
        x.beast(kind, 9, cell, 0);
        for (int c : others) {
            x.beast(3, 1, c, 0);
        }
        Check.ring(x, text);
        String call = "KIND " + kind + " in " + cell + ", THE TAMER in " + tamer + ", others " + others.length;
        Check.due("of(0, 7): " + call, x.of(0, 7), then == cell ? 0 : kind == 2 ? 2 : 1);
        Check.due("then: " + call, behindOne(x, 0), then);
    }

    /** "the greatest ROUND, of several the least CELL; none: it stays" */
    private static void yieldsToTheLeastCell() {
        String all = "yield 9 n=0";
        goesTo(0, all, 14, 35, 8);
        goesTo(0, all, 14, 35, 13, 8);
        goesTo(0, all, 14, 35, 14, 8, 13);
        // in one row with THE TAMER three CELLS are more ROUND from it
        goesTo(0, all, 14, 17, 8);
        goesTo(0, all, 14, 17, 13, 8);
        goesTo(0, all, 14, 17, 20, 8, 13);
        goesTo(0, all, 14, 17, 14, 8, 13, 20);
        goesTo(0, all, 14, 2, 13);
        goesTo(0, all, 14, 2, 15, 13);
        goesTo(0, all, 14, 2, 20, 13, 15);
        goesTo(0, all, 14, 26, 8);
        goesTo(0, all, 0, 35, 0);
        goesTo(0, all, 5, 30, 5);
        goesTo(0, all, 30, 5, 30);
        goesTo(0, all, 35, 0, 35);
        goesTo(0, all, 3, 33, 2);
        goesTo(0, all, 3, 33, 4, 2);
        goesTo(0, all, 3, 33, 3, 2, 4);
    }

    /** "(least ROUND, least CELL); none: it stays" */
    private static void comesToTheLeastCell() {
        String none = "loud 1";
        goesTo(2, none, 14, 35, 15);
        goesTo(2, none, 14, 35, 20, 15);
        goesTo(2, none, 14, 35, 14, 15, 20);
        goesTo(2, none, 14, 0, 8);
        goesTo(2, none, 14, 0, 13, 8);
        goesTo(2, none, 14, 5, 8);
        goesTo(2, none, 14, 30, 13);
        goesTo(2, none, 14, 30, 20, 13);
        // in one row there is but one CELL less ROUND: it does not go about a BEAST
        goesTo(2, none, 14, 17, 15);
        goesTo(2, none, 14, 17, 14, 15);
        goesTo(2, none, 14, 12, 14, 13);
        goesTo(2, none, 14, 2, 14, 8);
        goesTo(2, none, 14, 32, 14, 20);
        goesTo(2, none, 14, 15, 15);
    }

    private static void stoolward(int cell, int stool, int tamer, int then, int... others) {
        LionRing x = new LionRing();
        x.tamer(tamer);
        x.beast(5, 9, cell, 0);
        x.set(0, 0, stool);
        for (int c : others) {
            x.beast(3, 1, c, 0);
        }
        String call = "from " + cell + " to " + stool + ", THE TAMER in " + tamer + ", others " + others.length;
        Check.due("of(0, 7): " + call, x.of(0, 7), then == cell ? 0 : 3);
        Check.due("then: " + call, behindOne(x, 0), then);
    }

    /** "To go toward its STOOL: likewise by ROUND from that." */
    private static void goesTowardItsStool() {
        stoolward(14, 35, 0, 15);
        stoolward(14, 35, 0, 20, 15);
        stoolward(14, 35, 0, 14, 15, 20);
        stoolward(14, 0, 35, 8);
        stoolward(14, 0, 35, 13, 8);
        stoolward(14, 17, 35, 15);
        stoolward(14, 17, 35, 14, 15);
        stoolward(14, 15, 35, 15);
        // another one sits in its STOOL's CELL
        LionRing x = new LionRing();
        x.beast(5, 9, 14, 0);
        x.beast(0, 0, 15, 0);
        x.set(1, 0, 30);
        Check.due("set(0, 0, 15)", x.set(0, 0, 15), 14);
        Check.due("of(0, 7)", x.of(0, 7), 0);
    }

    /** "(No BEAST yields into THE TAMER's CELL, nor goes into it toward its STOOL.)" */
    private static void neverIntoTheTamersCell() {
        stoolward(14, 15, 15, 14);
        stoolward(14, 17, 15, 14);
        stoolward(14, 2, 8, 14);
        stoolward(14, 26, 20, 14);
        stoolward(14, 12, 13, 14);
        // the other CELL that is less ROUND is none of THE TAMER's
        stoolward(14, 35, 15, 20);
        stoolward(14, 35, 20, 15);
        stoolward(14, 35, 15, 14, 20);
        LionRing x = new LionRing();
        x.tamer(15);
        x.beast(1, 0, 14, 0);
        for (int c : new int[] {8, 13, 20}) {
            x.beast(3, 1, c, 0);
        }
        Check.ring(x, "yield 9 n=0");
        Check.due("of(0, 7): THE TAMER's CELL alone is open", x.of(0, 7), 0);
        Check.due("go(1)", x.go(1), NEVER);
    }

    /** "without a BEAST": no two are ever in one CELL */
    private static void noneInACellWithABeast() {
        LionRing x = new LionRing();
        x.tamer(14);
        int[] cells = {2, 12, 17, 32, 0, 35};
        for (int i = 0; i < 6; i++) {
            x.beast(2, 9, cells[i], 0);
        }
        for (int tenth = 0; tenth < 12; tenth++) {
            x.go(1);
            long held = 0;
            for (int i = 0; i < 6; i++) {
                held |= 1L << x.of(i, 2);
            }
            Check.due("CELLS with a BEAST behind TENTH " + tenth, Long.bitCount(held), 6);
        }
    }

    /** "BEASTS by numbers do so, one behind the other (each by how all is then)" */
    private static void eachByHowAllIsThen() {
        LionRing x = new LionRing();
        x.beast(0, 0, 14, 0);
        x.beast(0, 0, 26, 0);
        Check.ring(x, "yield 9 n=0;yield 9 n=1&b=0");
        Check.due("of(1, 7): BEAST 0 is FAR 2", x.of(1, 7), 0);
        x.go(1);
        Check.due("of(0, 2)", x.of(0, 2), 8);
        Check.due("of(1, 2): it was FAR 3 then", x.of(1, 2), 20);
        LionRing y = new LionRing();
        y.beast(0, 0, 26, 0);
        y.beast(0, 0, 14, 0);
        Check.ring(y, "yield 9 n=1;yield 9 n=0&b=0");
        y.go(1);
        Check.due("of(0, 2): its turn came first", y.of(0, 2), 26);
        Check.due("of(1, 2)", y.of(1, 2), 8);
        LionRing z = new LionRing();
        z.beast(0, 0, 14, 0);
        z.beast(0, 0, 15, 0);
        Check.ring(z, "yield 9 n=0;yield 9 n=1&c=0");
        z.go(1);
        Check.due("of(1, 2): 14 was open then, and 9 is the least", z.of(1, 2), 9);
        // t is the same for all of them
        LionRing w = new LionRing();
        for (int i = 0; i < 6; i++) {
            w.beast(0, 0, 2 * i, 0);
        }
        w.tamer(34);
        Check.ring(w, "yield 9 t=0");
        w.go(1);
        // 4 was open then, as BEAST 2 had left it
        Check.due("of(5, 2): in TENTH 0, too", w.of(5, 2), 4);
        Check.due("count(5)", w.count(5), 1);
    }

    // ---- promise 9

    /** "n TENTHS (1 .. 60)", "BAD" */
    private static void goBad() {
        for (int n : new int[] {0, 61, -1, MOST, LEAST}) {
            Alike.refused(Scenes::rich, "go(" + n + ")", x -> x.go(n), BAD);
        }
        LionRing x = new LionRing();
        Check.due("go(1)", x.go(1), NEVER);
        Check.due("count(5)", x.count(5), 1);
        Check.due("go(60)", x.go(60), NEVER);
        Check.due("count(5)", x.count(5), 61);
    }

    /** "it ends behind the first TENTH at whose end one has" */
    private static void goEndsWhenCaught() {
        for (int n = 1; n <= 7; n++) {
            LionRing x = new LionRing();
            x.beast(0, 0, 0, 0);
            x.beast(2, 9, 30, 0);
            // it comes a CELL in each TENTH: THE TAMER is CAUGHT behind the fifth
            Check.due("go(" + n + ")", x.go(n), n < 5 ? NEVER : 1);
            Check.due("count(5)", x.count(5), Math.min(n, 5));
            Check.due("of(1, 2)", x.of(1, 2), 30 + Math.min(n, 5));
        }
        // all BEASTS have had their turn in that TENTH
        LionRing x = new LionRing();
        x.beast(2, 9, 34, 0);
        x.beast(2, 9, 33, 0);
        Check.due("go(60)", x.go(60), 0);
        Check.due("of(1, 2)", x.of(1, 2), 34);
    }

    /** CAUGHT ahead of it: a TENTH goes by, at whose end it may be so no more */
    private static void goFromCaught() {
        LionRing x = new LionRing();
        x.tamer(1);
        x.beast(4, 0, 0, 0);
        x.beast(0, 0, 6, 0);
        Check.ring(x, "yield 1 n=0");
        Check.due("go(60): CORNERED comes", x.go(60), 0);
        Check.due("count(5)", x.count(5), 1);
        // in THE TAMER's CELL it yields, to 0 where it is CORNERED once more
        Check.due("go(1)", x.go(1), NEVER);
        Check.due("of(0, 2)", x.of(0, 2), 0);
        Check.due("go(60)", x.go(60), 0);
        Check.due("count(5)", x.count(5), 3);
        Check.due("go(60): away and back", x.go(60), 0);
        Check.due("count(5)", x.count(5), 5);
        LionRing y = new LionRing();
        y.beast(2, 9, 34, 0);
        y.go(60);
        Check.due("go(60): it stays", y.go(60), 0);
        Check.due("count(5)", y.count(5), 2);
    }

    private static void goWithoutBeasts() {
        LionRing x = new LionRing();
        Check.due("go(60) without BEASTS", x.go(60), NEVER);
        Check.due("count(5)", x.count(5), 60);
        Check.due("count(7)", x.count(7), 35);
    }

    /** "THE TAMER staying", and nothing but CELLS and the TENTH goes on */
    private static void goLeavesTheRest() {
        LionRing x = Scenes.rich();
        x.go(3);
        Check.due("count(7)", x.count(7), 14);
        Check.due("count(2)", x.count(2), 2);
        Check.due("count(3)", x.count(3), 2);
        Check.due("count(6)", x.count(6), Scenes.rich().count(6));
        Check.due("of(1, 3)", x.of(1, 3), 23);
        Check.due("of(0, 4)", x.of(0, 4), 6);
        Check.due("enemies(0, 2, true)", x.enemies(0, 2, true), 1);
        // THUNDER is in CALM alone
        LionRing y = new LionRing();
        y.beast(0, 0, 34, 0);
        y.thunder(10);
        Check.due("go(60)", y.go(60), NEVER);
        Check.due("of(0, 7)", y.of(0, 7), 0);
        Check.due("sit()", y.sit(), 0);
        Check.due("safe()", y.safe(), (1L << 36) - 1 - (1L << 34));
        Check.due("line(0)", y.line(0), NEVER);
        Check.due("from(0)", y.from(0), NEVER);
    }
}
