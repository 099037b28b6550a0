/** The boundary cases of CELLS and BEASTS (the terms' part 1) and of promises 1 to 6, a test for each sentence. */
public final class EdgeBeastTest {
    private static final int NONE = LionRing.NONE, BAD = LionRing.BAD, STATE = LionRing.STATE, FULL = LionRing.FULL;
    private static final int MOST = Integer.MAX_VALUE, LEAST = Integer.MIN_VALUE;

    public static void main(String[] args) {
        cellsFrom0To35();
        rowsDoNotWrap();
        beastsAsTheyCome();
        stoolAtFirst();
        hungerAndVFrom0To9();
        enemiesNoneAtFirst();
        tamerAtFirst();
        tenthAtFirst();
        nothingAtFirst();
        beastNone();
        beastBad();
        beastState();
        beastFull();
        beastFirstNamed();
        ofNone();
        ofWithoutARing();
        ofWouldNotChange();
        setNone();
        setBad();
        setState();
        setFirstNamed();
        enemiesNone();
        enemiesBad();
        enemiesTold();
        tamerNone();
        tamerState();
        Check.end();
    }

    // ---- the terms

    /** "CELLS 0 .. 35" */
    private static void cellsFrom0To35() {
        LionRing x = new LionRing();
        Check.due("beast(0, 0, 0, 0)", x.beast(0, 0, 0, 0), 0);
        Check.due("beast(0, 0, 34, 0)", x.beast(0, 0, 34, 0), 1);
        Check.due("tamer(1)", x.tamer(1), 35);
        Check.due("beast(0, 0, 35, 0)", x.beast(0, 0, 35, 0), 2);
        Check.due("set(0, 0, 1)", x.set(0, 0, 1), 0);
        Check.due("set(1, 0, 0)", x.set(1, 0, 0), 34);
        Check.due("set(2, 0, 34)", x.set(2, 0, 34), 35);
        Check.due("set(1, 0, 35)", x.set(1, 0, 35), 0);
        Check.due("walk(0)", x.walk(0), 1);
        Check.due("walk(35)", x.walk(35), 2);
        Check.due("film(0)", x.film(0), 1);
        Check.due("film(35)", x.film(35), 2);
    }

    /** "NEXT to one another: CELLS that share a side": the last CELL of a row is not NEXT to the first of the next. */
    private static void rowsDoNotWrap() {
        yieldsTo(5, 4, 11);
        yieldsTo(6, 7, 0);
        yieldsTo(11, 10, 5);
        yieldsTo(30, 31, 24);
        yieldsTo(29, 28, 23);
        // in the corners there is but one other CELL
        yieldsTo(0, 1, 6);
        yieldsTo(0, 6, 1);
        yieldsTo(35, 34, 29);
        yieldsTo(35, 29, 34);
        yieldsTo(5, 11, 4);
        yieldsTo(30, 24, 31);
        LionRing x = new LionRing();
        x.beast(0, 0, 5, 0);
        x.beast(0, 0, 6, 0);
        Check.ring(x, "yield 1 c=0;yield 2 c=1;yield 3 c=2;yield 4 c=3");
        Check.due("c of 5: 6 is not NEXT to it", x.of(0, 5), 3);
        Check.due("c of 6: 5 is not NEXT to it", x.of(1, 5), 2);
        x.enemies(0, 1, true);
        Check.due("seats(-1): ENEMIES in 5 and 6", x.seats(-1), 0);
        LionRing y = new LionRing();
        y.tamer(5);
        y.walk(6);
        Check.due("gone(12): THE TAMER can't go from 5 to 6", y.gone(12), 5);
        Check.due("gone(11)", y.gone(11), 0);
        y.tamer(12);
        y.walk(-1);
        y.walk(11);
        Check.due("gone(12): nor from 12 to 11", y.gone(12), 12);
        y.beast(0, 0, 11, 0);
        Check.ring(y, "yield 9 n=0;come 1 n=0");
        Check.due("of(0, 7): 12 is 5 columns off from 11, not NEXT", y.of(0, 7), 1);
    }

    private static void yieldsTo(int cell, int tamer, int then) {
        LionRing x = new LionRing();
        x.tamer(tamer);
        x.beast(0, 0, cell, 0);
        Check.ring(x, "yield 1 n=0");
        x.go(1);
        Check.due("from " + cell + " it yields, THE TAMER in " + tamer, x.of(0, 2), then);
    }

    /** "BEASTS 0 .. 5, as they come: each in a CELL of its own" */
    private static void beastsAsTheyCome() {
        LionRing x = new LionRing();
        for (int i = 0; i < 6; i++) {
            Check.due("of(" + i + ", 2) ahead of it", x.of(i, 2), NONE);
            Check.due("beast " + i, x.beast(6 - i, 0, 6 * i, 0), i);
            Check.due("of(" + i + ", 0)", x.of(i, 0), 6 - i);
            Check.due("of(" + i + ", 2)", x.of(i, 2), 6 * i);
        }
        Check.due("of(6, 2)", x.of(6, 2), NONE);
    }

    /** "a STOOL (a CELL; that in which it came, at first)" */
    private static void stoolAtFirst() {
        LionRing x = new LionRing();
        x.beast(2, 9, 30, 0);
        Check.due("of(0, 3)", x.of(0, 3), 30);
        x.go(1);
        Check.due("of(0, 2): it went", x.of(0, 2), 31);
        Check.due("of(0, 3): its STOOL did not", x.of(0, 3), 30);
    }

    /** "HUNGER (0 .. 9)", "a number v (0 .. 9)" */
    private static void hungerAndVFrom0To9() {
        LionRing x = new LionRing();
        Check.due("beast(0, 0, 1, 0)", x.beast(0, 0, 1, 0), 0);
        Check.due("beast(0, 9, 2, 9)", x.beast(0, 9, 2, 9), 1);
        Check.due("of(0, 1)", x.of(0, 1), 0);
        Check.due("of(1, 1)", x.of(1, 1), 9);
        Check.due("of(0, 4)", x.of(0, 4), 0);
        Check.due("of(1, 4)", x.of(1, 4), 9);
        Check.due("set(0, 1, 9)", x.set(0, 1, 9), 0);
        Check.due("set(1, 1, 0)", x.set(1, 1, 0), 9);
    }

    /** "ENEMIES: pairs of BEASTS, told (none at first)" */
    private static void enemiesNoneAtFirst() {
        LionRing x = Scenes.full();
        for (int a = 0; a < 6; a++) {
            for (int b = 0; b < a; b++) {
                Check.due("enemies(" + a + ", " + b + ")", x.enemies(a, b, false), a == 2 && b == 0 ? 1 : 0);
            }
        }
    }

    /** "THE TAMER is in a CELL (35 at first)" */
    private static void tamerAtFirst() {
        LionRing x = new LionRing();
        Check.due("count(7)", x.count(7), 35);
        Check.due("gone(12)", x.gone(12), 35);
        Check.due("tamer(35)", x.tamer(35), 35);
    }

    /** "It is TENTH 0 at first (so is the first that goes by)" */
    private static void tenthAtFirst() {
        LionRing x = new LionRing();
        Check.due("count(5)", x.count(5), 0);
        x.beast(0, 0, 21, 0);
        Check.ring(x, "yield 9 t=0");
        Check.due("go(1)", x.go(1), -5);
        Check.due("of(0, 2): it yielded in TENTH 0", x.of(0, 2), 15);
        Check.due("count(5)", x.count(5), 1);
        Check.due("go(1)", x.go(1), -5);
        Check.due("of(0, 2): not in TENTH 1", x.of(0, 2), 15);
    }

    // ---- promise 1

    /** "No BEASTS, no RING.", and what the terms tell of how all is at first */
    private static void nothingAtFirst() {
        LionRing x = new LionRing();
        Check.due("count(0)", x.count(0), 0);
        Check.due("count(1)", x.count(1), 0);
        Check.due("count(2)", x.count(2), 0);
        Check.due("count(3)", x.count(3), 0);
        Check.due("count(4)", x.count(4), 0);
        Check.due("count(6)", x.count(6), 0);
        Check.due("of(0, 0)", x.of(0, 0), NONE);
        Check.due("from(0)", x.from(0), NONE);
        Check.due("gone(0)", x.gone(0), NONE);
        Check.due("gone(10)", x.gone(10), -5);
        Check.due("gone(11)", x.gone(11), -5);
        Check.due("shortest(0, -1)", x.shortest(0, -1), NONE);
        Check.due("line(0)", x.line(0), NONE);
        Check.due("kinds(0)", x.kinds(0), NONE);
        Check.due("set(0, 0, 0)", x.set(0, 0, 0), NONE);
        Check.due("enemies(0, 1, true)", x.enemies(0, 1, true), NONE);
        Check.due("taken(0, 0)", x.taken(0, 0), -11);
        Check.due("act(0, 0, 1)", x.act(0, 0, 1), 0);
        Check.due("image()", x.image(), 0);
    }

    // ---- promise 2

    private static void beastIs(int kind, int v, int cell, int hunger, int want) {
        String call = "beast(" + kind + ", " + v + ", " + cell + ", " + hunger + ")";
        Alike.refused(Scenes::rich, call, x -> x.beast(kind, v, cell, hunger), want);
    }

    /** "NONE: kind, cell" */
    private static void beastNone() {
        beastIs(-1, 0, 1, 0, NONE);
        beastIs(7, 0, 1, 0, NONE);
        beastIs(LEAST, 0, 1, 0, NONE);
        beastIs(MOST, 0, 1, 0, NONE);
        beastIs(0, 0, -1, 0, NONE);
        beastIs(0, 0, 36, 0, NONE);
        beastIs(0, 0, LEAST, 0, NONE);
        beastIs(0, 0, MOST, 0, NONE);
        for (int kind = 0; kind < 7; kind++) {
            Check.due("beast(" + kind + ", 0, 7, 0)", Scenes.rich().beast(kind, 0, 7, 0), 3);
        }
    }

    /** "BAD: v, hunger" */
    private static void beastBad() {
        beastIs(0, -1, 1, 0, BAD);
        beastIs(0, 10, 1, 0, BAD);
        beastIs(0, LEAST, 1, 0, BAD);
        beastIs(0, MOST, 1, 0, BAD);
        beastIs(0, 0, 1, -1, BAD);
        beastIs(0, 0, 1, 10, BAD);
        beastIs(0, 0, 1, LEAST, BAD);
        beastIs(0, 0, 1, MOST, BAD);
    }

    /** "STATE: a BEAST or THE TAMER is in that CELL, or it is a STOOL" */
    private static void beastState() {
        LionRing x = Scenes.rich();
        for (int i = 0; i < 3; i++) {
            beastIs(0, 0, x.of(i, 2), 0, STATE);
            beastIs(0, 0, x.of(i, 3), 0, STATE);
        }
        beastIs(0, 0, 14, 0, STATE);
        // the CELL in which one came is free when it is neither its STOOL nor its CELL any more
        x.set(1, 0, 24);
        Check.due("beast(0, 0, 23, 0): a STOOL no more", x.beast(0, 0, 23, 0), 3);
        x.tamer(12);
        Check.due("beast(0, 0, 14, 0): THE TAMER's no more", x.beast(0, 0, 14, 0), 4);
    }

    /** "FULL: 6" */
    private static void beastFull() {
        Alike.refused(Scenes::full, "beast(0, 0, 7, 0) of six", x -> x.beast(0, 0, 7, 0), FULL);
        LionRing x = Scenes.full();
        x.undo();
        Check.due("count(0)", x.count(0), 3);
        Check.due("beast(0, 0, 7, 0): room again", x.beast(0, 0, 7, 0), 3);
    }

    /** "the first that a call's words name" */
    private static void beastFirstNamed() {
        beastIs(7, 10, 14, 10, NONE);
        beastIs(0, 10, 36, 0, NONE);
        beastIs(0, 10, 14, 0, BAD);
        beastIs(0, 0, 14, 10, BAD);
        Alike.refused(Scenes::full, "beast(7, 0, 7, 0) of six", x -> x.beast(7, 0, 7, 0), NONE);
        Alike.refused(Scenes::full, "beast(0, 0, 7, 10) of six", x -> x.beast(0, 0, 7, 10), BAD);
        Alike.refused(Scenes::full, "beast(0, 0, 14, 0) of six", x -> x.beast(0, 0, 14, 0), STATE);
    }

    // ---- promise 3

    private static void ofIs(int beast, int what, int want) {
        Alike.refused(Scenes::rich, "of(" + beast + ", " + what + ")", x -> x.of(beast, what), want);
    }

    /** "NONE." */
    private static void ofNone() {
        ofIs(-1, 0, NONE);
        ofIs(3, 0, NONE);
        ofIs(MOST, 0, NONE);
        ofIs(LEAST, 0, NONE);
        ofIs(0, -1, NONE);
        ofIs(0, 8, NONE);
        ofIs(0, MOST, NONE);
        ofIs(0, LEAST, NONE);
        ofIs(3, 8, NONE);
        for (int what = 0; what < 8; what++) {
            int at = what;
            Alike.asked(Scenes::rich, "of(1, " + at + ")", x -> x.of(1, at), Scenes.rich().of(1, at));
        }
    }

    /** "without one there are no CLAUSES": YIELDS and COMES are 0, of COMING ones COMES is v */
    private static void ofWithoutARing() {
        int[] comes = {0, 0, 4, 0, 0, 0, 4};
        for (int kind = 0; kind < 7; kind++) {
            LionRing x = new LionRing();
            x.beast(kind, 4, 0, 0);
            Check.due("YIELDS of KIND " + kind, x.of(0, 5), 0);
            Check.due("COMES of KIND " + kind, x.of(0, 6), comes[kind]);
            Check.due("what KIND " + kind + " would do", x.of(0, 7), 0);
        }
    }

    /** "0, if its CELL would not change by it" */
    private static void ofWouldNotChange() {
        // each is shut in by two BEASTS
        for (int kind = 0; kind < 7; kind++) {
            for (int tamer : new int[] {7, 14, 35}) {
                LionRing x = new LionRing();
                x.tamer(tamer);
                x.beast(kind, 9, 0, 0);
                x.beast(0, 0, 1, 0);
                x.beast(0, 0, 6, 0);
                x.set(0, 0, 9);
                Check.ring(x, "yield 5 n=0;come 1 n=0");
                Check.due("KIND " + kind + " shut in, THE TAMER in " + tamer, x.of(0, 7), 0);
            }
        }
    }

    // ---- promise 4

    private static void setIs(int beast, int what, int n, int want) {
        String call = "set(" + beast + ", " + what + ", " + n + ")";
        Alike.refused(Scenes::rich, call, x -> x.set(beast, what, n), want);
    }

    /** "NONE: beast, what" */
    private static void setNone() {
        setIs(-1, 0, 1, NONE);
        setIs(3, 0, 1, NONE);
        setIs(MOST, 0, 1, NONE);
        setIs(LEAST, 1, 1, NONE);
        setIs(0, -1, 1, NONE);
        setIs(0, 2, 1, NONE);
        setIs(0, MOST, 1, NONE);
        setIs(0, LEAST, 1, NONE);
    }

    /** "BAD: n" */
    private static void setBad() {
        setIs(0, 0, -1, BAD);
        setIs(0, 0, 36, BAD);
        setIs(0, 0, MOST, BAD);
        setIs(0, 0, LEAST, BAD);
        setIs(0, 1, -1, BAD);
        setIs(0, 1, 10, BAD);
        setIs(0, 1, MOST, BAD);
        setIs(0, 1, LEAST, BAD);
        Check.due("set(0, 0, 10): a STOOL may be above 9", Scenes.rich().set(0, 0, 10), 0);
    }

    /** "STATE: another one has that STOOL" */
    private static void setState() {
        setIs(0, 0, 23, STATE);
        setIs(0, 0, 31, STATE);
        setIs(2, 0, 0, STATE);
        LionRing x = Scenes.rich();
        Check.due("set(1, 0, 23): its own", x.set(1, 0, 23), 23);
        Check.due("set(1, 1, 5): HUNGER as another one's", x.set(1, 1, 6), 9);
        Check.due("set(1, 0, 14): THE TAMER's CELL", x.set(1, 0, 14), 23);
        Check.due("set(0, 0, 23): free now", x.set(0, 0, 23), 0);
        Check.due("set(1, 0, 0): another one's CELL", x.set(1, 0, 0), 14);
    }

    /** "the first that a call's words name" */
    private static void setFirstNamed() {
        setIs(3, 2, 36, NONE);
        setIs(3, 0, 36, NONE);
        setIs(3, 0, 23, NONE);
        setIs(0, 2, 36, NONE);
    }

    // ---- promise 5

    private static void enemiesIs(int a, int b, boolean are, int want) {
        String call = "enemies(" + a + ", " + b + ", " + are + ")";
        Alike.refused(Scenes::rich, call, x -> x.enemies(a, b, are), want);
    }

    /** "NONE" */
    private static void enemiesNone() {
        enemiesIs(-1, 0, true, NONE);
        enemiesIs(0, -1, true, NONE);
        enemiesIs(3, 0, true, NONE);
        enemiesIs(0, 3, true, NONE);
        enemiesIs(0, MOST, true, NONE);
        enemiesIs(LEAST, 0, false, NONE);
        enemiesIs(3, 3, true, NONE);
        enemiesIs(-1, -1, true, NONE);
        // 32 more than a BEAST's number
        enemiesIs(0, 34, false, NONE);
    }

    /** "BAD: one BEAST" */
    private static void enemiesBad() {
        for (int i = 0; i < 3; i++) {
            enemiesIs(i, i, true, BAD);
            enemiesIs(i, i, false, BAD);
        }
    }

    /** "ENEMIES, or not: 1 if they were, 0": a pair, whichever is named first */
    private static void enemiesTold() {
        LionRing x = Scenes.full();
        x.enemies(0, 2, false);
        for (int a = 0; a < 6; a++) {
            for (int b = 0; b < a; b++) {
                Check.due("told", x.enemies(a, b, true), 0);
                Check.due("told again", x.enemies(b, a, true), 1);
                Check.due("untold", x.enemies(b, a, false), 1);
                Check.due("untold again", x.enemies(a, b, false), 0);
            }
        }
    }

    // ---- promise 6

    /** "NONE" */
    private static void tamerNone() {
        for (int cell : new int[] {-1, 36, MOST, LEAST}) {
            Alike.refused(Scenes::rich, "tamer(" + cell + ")", x -> x.tamer(cell), NONE);
        }
    }

    /** "STATE: a BEAST is there" */
    private static void tamerState() {
        LionRing x = Scenes.rich();
        for (int i = 0; i < 3; i++) {
            int cell = x.of(i, 2);
            Alike.refused(Scenes::rich, "tamer(" + cell + ")", y -> y.tamer(cell), STATE);
        }
        Check.due("tamer(31): a STOOL alone", x.tamer(31), 14);
        Check.due("tamer(31): where it is", x.tamer(31), 31);
        LionRing y = new LionRing();
        y.beast(2, 9, 34, 0);
        y.go(1);
        Check.due("tamer(35): it is CAUGHT there", y.tamer(35), STATE);
        Check.due("count(7)", y.count(7), 35);
        Check.due("tamer(34): its own CELL was left", y.tamer(34), 35);
    }
}
