/** The boundary cases of THE IMAGE and of ACTS, promises 23 to 28, a test for each sentence. */
public final class EdgeActTest {
    private static final int NONE = LionRing.NONE, BAD = LionRing.BAD, STATE = LionRing.STATE, FULL = LionRing.FULL;
    private static final int NOTHING = -11, CAST = -12;
    private static final int MOST = Integer.MAX_VALUE, LEAST = Integer.MIN_VALUE;

    public static void main(String[] args) {
        undoState();
        imageOfNoBeasts();
        imageOfSix();
        imageIsTakenAnew();
        imageStaysBehindUndo();
        imageIsNoPartOfItself();
        imageOfNoRing();
        imageOfAFullWalkAndFilm();
        imageKeepsEnemies();
        actZero();
        actNoTraceThen();
        actWraps();
        actWrapsInEachStep();
        actsOfTheLeast();
        traceNone();
        traceOfTheLatest();
        traceOfTheLongest();
        takenBad();
        takenNothing();
        takenCast();
        countBad();
        countOfFull();
        countOfEmpty();
        Check.end();
    }

    // ---- promises 23 and 24

    /** "STATE: there is none." */
    private static void undoState() {
        Alike.refused(EdgeActTest::six, "undo() without THE IMAGE", x -> x.undo(), STATE);
        LionRing x = new LionRing();
        Check.due("undo()", x.undo(), STATE);
        Check.due("undo() again", x.undo(), STATE);
        Check.due("image()", x.image(), 0);
        Check.due("undo()", x.undo(), 0);
    }

    private static void imageOfNoBeasts() {
        LionRing x = new LionRing();
        Check.due("image()", x.image(), 0);
        x.tamer(3);
        x.beast(0, 0, 35, 0);
        x.go(60);
        Check.due("undo()", x.undo(), 0);
        Check.due("count(0)", x.count(0), 0);
        Check.due("count(5)", x.count(5), 0);
        Check.due("count(7)", x.count(7), 35);
        Check.due("of(0, 2)", x.of(0, 2), NONE);
        Check.due("beast(0, 0, 35, 0): THE TAMER's again", x.beast(0, 0, 35, 0), STATE);
        Check.due("beast(0, 0, 3, 0)", x.beast(0, 0, 3, 0), 0);
    }

    private static void imageOfSix() {
        LionRing x = Scenes.full();
        Check.due("image()", x.image(), 6);
        Check.due("beast(0, 0, 7, 0)", x.beast(0, 0, 7, 0), FULL);
        x.go(3);
        Check.due("undo()", x.undo(), 6);
        LionRing as = Scenes.full();
        as.image();
        Alike.same("behind undo()", x, as);
    }

    /** "THE IMAGE is taken": there is one, the latest */
    private static void imageIsTakenAnew() {
        LionRing x = new LionRing();
        x.image();
        x.beast(0, 0, 0, 0);
        Check.due("image() anew", x.image(), 1);
        x.beast(0, 0, 1, 0);
        Check.due("undo()", x.undo(), 1);
        Check.due("count(0)", x.count(0), 1);
        // an older scene may be the newer IMAGE
        x.go(1);
        x.image();
        x.go(1);
        x.undo();
        Check.due("count(5)", x.count(5), 1);
    }

    /** THE IMAGE stays as it was, whatever goes on behind undo() */
    private static void imageStaysBehindUndo() {
        LionRing x = Scenes.rich();
        x.image();
        for (int i = 0; i < 3; i++) {
            x.go(2);
            x.set(0, 1, i);
            x.enemies(0, 1, true);
            x.walk(-1);
            x.film(35);
            x.thunder(10);
            x.tamer(13 - i);
            x.beast(0, 0, 17, 0);
            Check.due("undo()", x.undo(), 3);
        }
        LionRing as = Scenes.rich();
        as.image();
        Alike.same("behind three undo()", x, as);
    }

    private static void imageIsNoPartOfItself() {
        LionRing x = Scenes.rich();
        int before = x.of(1, 2);
        x.undo();
        Check.due("undo(): again, and no other scene", x.undo(), 3);
        Check.due("of(0, 4): HUNGER of then", x.of(0, 4), 5);
        Check.due("count(5)", x.count(5), 0);
        Check.due("of(1, 2): its CELL of then", x.of(1, 2), 22);
        Check.due("of(1, 2) before", before, 16);
    }

    /** "which RING holds": none, if none held */
    private static void imageOfNoRing() {
        LionRing x = new LionRing();
        x.beast(0, 0, 34, 0);
        x.image();
        Check.ring(x, "yield 5 n=0;loud 0");
        x.thunder(10);
        Check.due("calm(1, 0): loud 0", x.calm(1, 0), 1);
        x.undo();
        x.thunder(10);
        Check.due("of(0, 5)", x.of(0, 5), 0);
        Check.due("calm(1, 0): loud is 1 without", x.calm(1, 0), 0);
        Check.due("count(1)", x.count(1), 1);
        Check.due("the next RING's number", Check.ring(x, "yield 2 n=0"), 1);
        Check.due("of(0, 5)", x.of(0, 5), 2);
        x.image();
        Check.ring(x, "yield 3 n=0");
        Check.ring(x, "yield 4 n=0");
        Check.due("of(0, 5)", x.of(0, 5), 4);
        x.undo();
        Check.due("of(0, 5): the RING of then", x.of(0, 5), 2);
    }

    private static void imageOfAFullWalkAndFilm() {
        LionRing x = new LionRing();
        x.tamer(0);
        int[] walk = {1, 2, 3, 4, 5, 11, 17, 23, 29, 35, 34, 33};
        for (int c : walk) {
            x.walk(c);
        }
        x.beast(0, 0, 21, 0);
        for (int i = 0; i < 10; i++) {
            x.film(21);
        }
        x.image();
        x.walk(-1);
        x.film(-1);
        x.walk(6);
        x.film(35);
        x.undo();
        Check.due("count(2)", x.count(2), 12);
        Check.due("count(3)", x.count(3), 10);
        Check.due("gone(12)", x.gone(12), 33);
        Check.due("kinds(0)", x.kinds(0), 127);
        Check.due("walk(33)", x.walk(33), FULL);
        Check.due("film(21)", x.film(21), FULL);
    }

    private static void imageKeepsEnemies() {
        LionRing x = new LionRing();
        x.beast(0, 0, 0, 0);
        x.beast(0, 0, 1, 0);
        x.image();
        x.beast(0, 0, 2, 0);
        x.enemies(0, 1, true);
        x.enemies(1, 2, true);
        x.undo();
        Check.due("enemies(0, 1, false)", x.enemies(0, 1, false), 0);
        Check.due("enemies(1, 2, false)", x.enemies(1, 2, false), NONE);
        // another one that comes then has no ENEMIES
        Check.due("beast(0, 0, 3, 0)", x.beast(0, 0, 3, 0), 2);
        Check.due("enemies(1, 2, false)", x.enemies(1, 2, false), 0);
        Check.due("enemies(2, 0, false)", x.enemies(2, 0, false), 0);
    }

    // ---- promises 25 and 26

    /** One BEAST of each KIND but MOVE, numbers 0 to 5, v one more than its KIND. */
    private static LionRing six() {
        LionRing x = new LionRing();
        for (int i = 0; i < 6; i++) {
            x.beast(i + 1, i + 2, i, 0);
        }
        return x;
    }

    /** "0, and no TRACE then: no such BEAST, act." */
    private static void actZero() {
        LionRing x = six();
        for (int beast : new int[] {-1, 6, MOST, LEAST}) {
            Check.due("act(" + beast + ", 0, 5)", x.act(beast, 0, 5), 0);
        }
        for (int act : new int[] {-1, 3, MOST, LEAST}) {
            Check.due("act(0, " + act + ", 5)", x.act(0, act, 5), 0);
        }
        Check.due("act(0, 0, 5) without BEASTS", new LionRing().act(0, 0, 5), 0);
        Check.due("act(5, 0, 5) of six", x.act(5, 0, 5) != 0 ? 1 : 0, 1);
    }

    private static void actNoTraceThen() {
        int[][] refused = {{-1, 0}, {6, 0}, {0, -1}, {0, 3}, {6, 3}};
        for (int[] call : refused) {
            LionRing x = six();
            x.act(5, 2, 1);
            Check.due("count(6)", x.count(6), 8);
            Check.due("act(" + call[0] + ", " + call[1] + ", 1)", x.act(call[0], call[1], 1), 0);
            Check.due("count(6): none ran", x.count(6), 0);
            for (int i = 0; i < 8; i++) {
                Check.due("trace(" + i + ")", x.trace(i), NONE);
            }
        }
        // nothing else changes by an act, refused or not
        LionRing x = Scenes.rich();
        x.act(9, 0, 0);
        x.act(1, 2, 5);
        Alike.same("behind acts", x, Scenes.rich());
    }

    private static void actIs(int beast, int act, int x, int want) {
        Check.due("act(" + beast + ", " + act + ", " + x + ")", six().act(beast, act, x), want);
    }

    /** "with x (wrapping)" */
    private static void actWraps() {
        // BEAST 0 is YIELDING, v 2: yields x + 0, comes (x - 2) ^ 6, tells that twice
        actIs(0, 0, MOST, MOST);
        actIs(0, 0, LEAST, LEAST);
        actIs(0, 1, LEAST, LEAST - 2 ^ 6);
        actIs(0, 1, LEAST + 1, MOST ^ 6);
        actIs(0, 2, MOST, (MOST - 2 ^ 6) * 2);
        // BEAST 1 is COMING, v 3: yields 3 x + 1, comes 3 less
        actIs(1, 0, MOST, MOST - 1);
        actIs(1, 0, LEAST, LEAST + 1);
        actIs(1, 0, 715827882, MOST);
        actIs(1, 0, 715827883, LEAST + 2);
        actIs(1, 1, LEAST, MOST - 1);
        actIs(1, 2, 715827882, -8);
        // BEAST 3 is CORNERED, v 5: yields -(x + 3)
        actIs(3, 0, MOST, -(MOST + 3));
        actIs(3, 0, MOST - 2, LEAST);
        actIs(3, 0, LEAST, -(LEAST + 3));
        // BEAST 4 is TAUGHT, v 6: tells of x - 4
        actIs(4, 2, LEAST, (LEAST - 4 + 4 - 6 ^ 6) * 2);
    }

    /** each number on the way wraps, as ints do */
    private static void actWrapsInEachStep() {
        for (int n : new int[] {0, 1, -1, MOST, LEAST, MOST - 1, LEAST + 1, 1 << 30, -(1 << 30), 123456789}) {
            // REFUSING, v 4, number 2: yields n + 2, comes 4 less, tells that twice and comes(1)
            actIs(2, 0, n, n + 2);
            actIs(2, 1, n, n - 2);
            actIs(2, 2, n, (n - 2) * 2 - 1);
            // CORNERED, v 5, number 3: comes(n) is (-(n + 4) - 5) ^ 6
            actIs(3, 0, n, -(n + 3));
            actIs(3, 1, n, -(n + 4) - 5 ^ 6);
            actIs(3, 2, n, (-(n + 4) - 5 ^ 6) * 2);
            // TAUGHT, v 6, number 4
            actIs(4, 0, n, n + 4);
            actIs(4, 1, n, n - 2 ^ 6);
            actIs(4, 2, n, (n - 6 ^ 6) * 2);
            // FEIGNED, v 7, number 5: yields (3 n + 5) ^ 7, comes that less 7, and 11
            actIs(5, 0, n, 3 * n + 5 ^ 7);
            actIs(5, 1, n, (3 * n + 5 ^ 7) - 7 + 11);
            actIs(5, 2, n, ((3 * n + 5 ^ 7) - 7 + 11) * 2);
        }
    }

    /** v 0 and number 0 */
    private static void actsOfTheLeast() {
        for (int kind = 0; kind < 7; kind++) {
            LionRing x = new LionRing();
            x.beast(kind, 0, 0, 0);
            int[] yields = {0, 0, 0, 0, 0, 0, 0};
            int[] comes = {0, 6, 0, 0, -1 ^ 6, 6, 6};
            Check.due("act(0, 0, 0) of KIND " + kind, x.act(0, 0, 0), yields[kind]);
            Check.due("act(0, 1, 0) of KIND " + kind, x.act(0, 1, 0), comes[kind]);
            Check.due("act(0, 2, 0) of KIND " + kind, x.act(0, 2, 0), kind == 3 ? 1 : 2 * comes[kind]);
        }
    }

    /** "NONE." */
    private static void traceNone() {
        LionRing none = new LionRing();
        for (int i : new int[] {0, 1, 19, 20, -1, MOST, LEAST}) {
            Check.due("trace(" + i + ") of no act", none.trace(i), NONE);
        }
        for (int i : new int[] {-1, 5, 19, 20, MOST, LEAST}) {
            Alike.refused(Scenes::rich, "trace(" + i + ")", x -> x.trace(i), NONE);
        }
        LionRing x = six();
        x.act(0, 0, 0);
        Check.due("trace(0)", x.trace(0), 10);
        Check.due("trace(1)", x.trace(1), NONE);
    }

    /** "in the latest act()" */
    private static void traceOfTheLatest() {
        LionRing x = six();
        x.act(5, 2, 1);
        x.act(0, 0, 1);
        Check.due("count(6)", x.count(6), 1);
        Check.due("trace(0)", x.trace(0), 10);
        Check.due("trace(1): nothing of the one before", x.trace(1), NONE);
        x.act(3, 1, 1);
        int[] due = {51, 20, 11, 50, 10, NONE};
        for (int i = 0; i < due.length; i++) {
            Check.due("trace(" + i + ")", x.trace(i), due[i]);
        }
        Check.due("count(6)", x.count(6), 5);
    }

    /** "(all, kept or not)", "the first 20 are kept": no act runs more than 8, so all are kept */
    private static void traceOfTheLongest() {
        LionRing x = six();
        int longest = 0;
        for (int beast = 0; beast < 6; beast++) {
            for (int act = 0; act < 3; act++) {
                x.act(beast, act, 1);
                int ran = x.count(6);
                longest = Math.max(longest, ran);
                for (int i = 0; i < 22; i++) {
                    Check.due("kept: " + i + " of " + ran, x.trace(i) != NONE ? 1 : 0, i < ran ? 1 : 0);
                }
            }
        }
        Check.due("the longest", longest, 8);
    }

    // ---- promise 27

    private static void takenIs(int beast, int k, int want) {
        Alike.refused(Scenes::rich, "taken(" + beast + ", " + k + ")", x -> x.taken(beast, k), want);
    }

    /** "BAD: k" */
    private static void takenBad() {
        for (int k : new int[] {-1, 7, MOST, LEAST}) {
            takenIs(0, k, BAD);
            takenIs(3, k, BAD);
            takenIs(-1, k, BAD);
        }
    }

    /** "NOTHING: no such BEAST" */
    private static void takenNothing() {
        for (int beast : new int[] {-1, 3, 6, MOST, LEAST}) {
            takenIs(beast, 0, NOTHING);
            takenIs(beast, 6, NOTHING);
        }
    }

    /** "CAST": neither of that KIND nor of one under it */
    private static void takenCast() {
        int[] above = {-1, 0, 0, 0, 1, 1, 2};
        for (int kind = 0; kind < 7; kind++) {
            LionRing x = new LionRing();
            x.beast(kind, 0, 0, 0);
            for (int k = 0; k < 7; k++) {
                boolean is = k == kind || k == above[kind] || k == 0;
                Check.due("KIND " + kind + " taken for " + k, x.taken(0, k), is ? kind : CAST);
            }
        }
        takenIs(0, 6, CAST);
        takenIs(1, 6, CAST);
    }

    // ---- promise 28

    /** "BAD." */
    private static void countBad() {
        for (int what : new int[] {-1, 8, MOST, LEAST}) {
            Alike.refused(Scenes::rich, "count(" + what + ")", x -> x.count(what), BAD);
        }
    }

    private static void countOfFull() {
        LionRing x = Scenes.full();
        int[] due = {6, 6, 12, 10, 100, 1, 4, 14};
        for (int what = 0; what < 8; what++) {
            Check.due("count(" + what + ") of full", x.count(what), due[what]);
        }
    }

    private static void countOfEmpty() {
        LionRing x = new LionRing();
        x.tamer(0);
        int[] due = {0, 0, 0, 0, 0, 0, 0, 0};
        for (int what = 0; what < 8; what++) {
            Check.due("count(" + what + ") of none", x.count(what), due[what]);
        }
    }
}
