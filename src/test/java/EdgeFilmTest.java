/** The boundary cases of THUNDER and of FILMS, promises 18 to 21, a test for each sentence. */
public final class EdgeFilmTest {
    private static final int NONE = LionRing.NONE, BAD = LionRing.BAD, FULL = LionRing.FULL;
    private static final long NO = LionRing.NO;
    private static final int MOST = Integer.MAX_VALUE, LEAST = Integer.MIN_VALUE;
    /** All KINDS, and those that yield where MOVE comes. */
    private static final int ALL = 127, SHY = 2 + 16 + 32, COMING = 4 + 64;

    public static void main(String[] args) {
        thunderBad();
        thunderFrom0To10();
        calmNo();
        calmOfNone();
        calmCertain();
        calmInLowestTerms();
        calmFromOneToSix();
        calmInEachTenth();
        calmAtTheEndOfAny();
        calmFromCaught();
        calmBehindAllElse();
        calmOfEachKind();
        filmNone();
        filmFull();
        filmEmpty();
        kindsNone();
        kindsOfNoFilm();
        kindsFromNowOn();
        kindsOfTen();
        kindsByItsV();
        kindsAllElseAsItIs();
        kindsThoughCaught();
        Check.end();
    }

    private static LionRing alone(int kind, int v, int cell, String text) {
        LionRing x = new LionRing();
        x.beast(kind, v, cell, 0);
        if (!text.isEmpty()) {
            Check.due("reading " + text, Check.ring(x, text), 0);
        }
        return x;
    }

    // ---- promise 18

    /** "BAD." */
    private static void thunderBad() {
        for (int n : new int[] {-1, 11, MOST, LEAST}) {
            Alike.refused(Scenes::rich, "thunder(" + n + ")", x -> x.thunder(n), BAD);
        }
    }

    /** "(0 .. 10)", "(0 at first)": what they were */
    private static void thunderFrom0To10() {
        LionRing x = new LionRing();
        int were = 0;
        for (int n = 10; n >= 0; n--) {
            Check.due("thunder(" + n + ")", x.thunder(n), were);
            were = n;
        }
        Check.due("thunder(10)", x.thunder(10), 0);
        Check.due("thunder(10)", x.thunder(10), 10);
    }

    // ---- promise 19

    private static void calmIs(LionRing x, int odds, int n, long above, long below) {
        x.thunder(odds);
        Check.due("calm(" + n + ", 0) with odds " + odds, x.calm(n, 0), above);
        Check.due("calm(" + n + ", 1) with odds " + odds, x.calm(n, 1), below);
    }

    /** "NO.": "n TENTHS (1 .. 6)", "part 0 above, 1 below the line" */
    private static void calmNo() {
        for (int n : new int[] {0, 7, -1, MOST, LEAST}) {
            Alike.refused(Scenes::rich, "calm(" + n + ", 0)", x -> x.calm(n, 0), NO);
            Alike.refused(Scenes::rich, "calm(" + n + ", 1)", x -> x.calm(n, 1), NO);
        }
        for (int part : new int[] {-1, 2, MOST, LEAST}) {
            Alike.refused(Scenes::rich, "calm(1, " + part + ")", x -> x.calm(1, part), NO);
            Alike.refused(Scenes::rich, "calm(6, " + part + ")", x -> x.calm(6, part), NO);
        }
    }

    private static void calmOfNone() {
        for (int odds : new int[] {0, 5, 10}) {
            calmIs(new LionRing(), odds, 1, 1, 1);
            calmIs(new LionRing(), odds, 6, 1, 1);
        }
    }

    /** never CAUGHT is 1 of 1, surely CAUGHT 0 of 1 */
    private static void calmCertain() {
        for (int odds = 0; odds <= 10; odds++) {
            calmIs(alone(0, 0, 0, ""), odds, 6, 1, 1);
            calmIs(alone(2, 9, 34, ""), odds, 1, 0, 1);
            calmIs(alone(2, 9, 30, ""), odds, 4, 1, 1);
            calmIs(alone(2, 9, 30, ""), odds, 5, 0, 1);
        }
        calmIs(alone(0, 0, 34, ""), 0, 6, 1, 1);
        calmIs(alone(0, 0, 34, ""), 10, 1, 0, 1);
        calmIs(alone(0, 0, 34, ""), 10, 6, 0, 1);
    }

    /** "a fraction in lowest terms" */
    private static void calmInLowestTerms() {
        long[][] of1 = {{1, 1}, {9, 10}, {4, 5}, {7, 10}, {3, 5}, {1, 2}, {2, 5}, {3, 10}, {1, 5}, {1, 10}, {0, 1}};
        long[][] of6 = {{1, 1}, {531441, 1000000}, {4096, 15625}, {117649, 1000000}, {729, 15625}, {1, 64},
            {64, 15625}, {729, 1000000}, {1, 15625}, {1, 1000000}, {0, 1}};
        for (int odds = 0; odds <= 10; odds++) {
            // by THUNDER alone it comes, and then THE TAMER is CAUGHT
            calmIs(alone(0, 0, 34, ""), odds, 1, of1[odds][0], of1[odds][1]);
            calmIs(alone(0, 0, 34, ""), odds, 6, of6[odds][0], of6[odds][1]);
        }
    }

    /** "n TENTHS (1 .. 6)" */
    private static void calmFromOneToSix() {
        // a CELL nearer by each THUNDER: five of them bring it to THE TAMER
        LionRing x = alone(0, 0, 30, "loud 5");
        for (int n = 1; n <= 4; n++) {
            calmIs(x, 5, n, 1, 1);
        }
        calmIs(x, 5, 5, 31, 32);
        calmIs(x, 5, 6, 57, 64);
        calmIs(x, 1, 5, 99999, 100000);
        calmIs(x, 10, 5, 0, 1);
    }

    /** "with odds of so many of ten in each TENTH": loud more in that one, not in the next */
    private static void calmInEachTenth() {
        // THUNDER in two TENTHS of three: 3/8 and 1/8 are CAUGHT
        calmIs(alone(0, 0, 33, "loud 2"), 5, 3, 1, 2);
        calmIs(alone(0, 0, 33, "loud 2"), 5, 2, 3, 4);
        // with loud 1 it is heard only at FAR 1: it never comes so near
        calmIs(alone(0, 0, 33, "loud 1"), 5, 6, 1, 1);
        calmIs(alone(0, 0, 33, "loud 1"), 10, 6, 1, 1);
        // at the slant FAR 1 is two CELLS to come
        calmIs(alone(0, 0, 28, "loud 1"), 5, 1, 1, 1);
        calmIs(alone(0, 0, 28, "loud 1"), 5, 2, 3, 4);
        // only in TENTH 0 it comes by itself
        calmIs(alone(0, 0, 33, "yield 3 t=0;come 2 t=0"), 5, 2, 1, 2);
        calmIs(alone(0, 0, 33, "yield 3 t=0;come 2 t=0"), 5, 1, 1, 1);
    }

    /** "how likely it is not CAUGHT at the end of any" */
    private static void calmAtTheEndOfAny() {
        // CORNERED comes into 1 by THUNDER, and leaves it again in the next TENTH
        LionRing x = new LionRing();
        x.tamer(1);
        x.beast(4, 0, 0, 0);
        x.beast(3, 1, 6, 0);
        calmIs(x, 5, 1, 1, 2);
        calmIs(x, 5, 2, 1, 4);
        calmIs(x, 5, 6, 1, 64);
    }

    /** CAUGHT at first is CAUGHT at the end of none, if the BEAST leaves */
    private static void calmFromCaught() {
        LionRing x = new LionRing();
        x.tamer(1);
        x.beast(4, 0, 0, 0);
        x.beast(3, 1, 6, 0);
        Check.ring(x, "yield 1 t=0;loud 0");
        Check.due("go(1)", x.go(1), 0);
        calmIs(x, 5, 6, 1, 1);
        LionRing y = alone(2, 9, 34, "");
        y.go(1);
        calmIs(y, 5, 1, 0, 1);
        calmIs(y, 5, 6, 0, 1);
    }

    /** "(behind all else ..)": COMES is below YIELDS ahead of loud, and of COMING ones v more is ahead of it, too */
    private static void calmBehindAllElse() {
        // YIELDS 1, so COMES 0, by THUNDER 2 and 1: at FAR 1 it comes by THUNDER and yields without
        calmIs(alone(0, 0, 34, "yield 1 n=0;come 9 n=0"), 5, 1, 1, 2);
        calmIs(alone(0, 0, 34, "yield 1 n=0;come 9 n=0"), 5, 2, 1, 2);
        // YIELDS 0, COMES 0 by THUNDER 1 and 1
        calmIs(alone(0, 0, 34, "come 9 n=0;loud 1"), 10, 1, 0, 1);
        // COMING with v 1: 1, by THUNDER 3; two of them bring it to FAR 1, from where it comes by itself
        calmIs(alone(2, 1, 32, "loud 2"), 5, 2, 1, 1);
        calmIs(alone(2, 1, 32, "loud 2"), 5, 3, 3, 4);
        calmIs(alone(2, 1, 32, "loud 1"), 10, 6, 1, 1);
        // YIELDS 1, by THUNDER 2: at FAR 2 it yields by THUNDER in TENTH 0, and is too far to come by TENTH 2
        calmIs(alone(0, 0, 33, "yield 1 n=0;yield 8 t>0;come 8 t>0"), 0, 3, 0, 1);
        calmIs(alone(0, 0, 33, "yield 1 n=0;yield 8 t>0;come 8 t>0"), 10, 3, 1, 1);
        calmIs(alone(0, 0, 33, "yield 1 n=0;yield 8 t>0;come 8 t>0"), 5, 3, 1, 2);
        // TAUGHT, too: FAR 2 is no more than YIELDS by THUNDER, so it does not go toward its STOOL
        LionRing x = alone(5, 9, 33, "yield 1 n=0;yield 8 t>0;come 8 t>0");
        x.set(0, 0, 34);
        calmIs(x, 5, 6, 1, 1);
        // loud 99, and YIELDS 9: above 9 they are, and no text reads otherwise then
        calmIs(alone(0, 0, 30, "yield 9 n=0;loud 99"), 10, 5, 0, 1);
        calmIs(alone(0, 0, 30, "yield 9 n=0;come 9 n=0;loud 99"), 10, 5, 0, 1);
    }

    /** THUNDER heard by each KIND, FAR 1 and FAR 2 of THE TAMER */
    private static void calmOfEachKind() {
        int[] caughtAtOnce = {1, 0, 1, 1, 0, 0, 0};
        for (int kind = 0; kind < 7; kind++) {
            calmIs(alone(kind, 0, 34, ""), 10, 1, 1 - caughtAtOnce[kind], 1);
            calmIs(alone(kind, 0, 34, ""), 10, 6, 1 - caughtAtOnce[kind], 1);
            calmIs(alone(kind, 0, 33, ""), 10, 6, 1, 1);
            calmIs(alone(kind, 0, 33, "loud 0"), 10, 6, 1, 1);
            calmIs(alone(kind, 0, 34, "loud 0"), 10, 6, 1, 1);
        }
        // REFUSING stays in TENTHS 0, 2, 4, however loud it is
        calmIs(alone(3, 1, 34, ""), 10, 6, 1, 1);
        calmIs(alone(3, 2, 34, ""), 5, 1, 1, 1);
        calmIs(alone(3, 2, 34, ""), 5, 2, 1, 2);
        calmIs(alone(3, 2, 34, ""), 5, 3, 1, 2);
        calmIs(alone(3, 2, 34, ""), 5, 6, 1, 8);
        // TAUGHT goes to its STOOL 32 when there is no THUNDER; by THUNDER it would yield from 34 to 28
        LionRing x = alone(5, 9, 34, "");
        x.set(0, 0, 32);
        calmIs(x, 5, 6, 1, 1);
    }

    // ---- promise 20

    /** "NONE" */
    private static void filmNone() {
        for (int cell : new int[] {-2, 36, MOST, LEAST}) {
            Alike.refused(Scenes::rich, "film(" + cell + ")", x -> x.film(cell), NONE);
            Alike.refused(Scenes::full, "film(" + cell + "), 10 told", x -> x.film(cell), NONE);
        }
    }

    /** "FULL: 10" */
    private static void filmFull() {
        Alike.refused(Scenes::full, "film(0), 10 told", x -> x.film(0), FULL);
        Alike.refused(Scenes::full, "film(35), 10 told", x -> x.film(35), FULL);
        LionRing x = new LionRing();
        for (int i = 1; i <= 10; i++) {
            Check.due("film", x.film(i), i);
            Check.due("count(3)", x.count(3), i);
        }
        Check.due("film(0)", x.film(0), FULL);
    }

    /** "(-1: none then, 0)" */
    private static void filmEmpty() {
        LionRing x = Scenes.full();
        Check.due("film(-1), 10 told", x.film(-1), 0);
        Check.due("count(3)", x.count(3), 0);
        Check.due("kinds(0)", x.kinds(0), ALL);
        Check.due("film(-1), none told", x.film(-1), 0);
        Check.due("film(36)", x.film(36), NONE);
        Check.due("film(5)", x.film(5), 1);
    }

    // ---- promise 21

    private static void kindsAre(LionRing x, int bits, int... cells) {
        x.film(-1);
        StringBuilder told = new StringBuilder();
        for (int c : cells) {
            x.film(c);
            told.append(' ').append(c);
        }
        Check.due("kinds(0) of" + told, x.kinds(0), bits);
    }

    /** "NONE." */
    private static void kindsNone() {
        for (int beast : new int[] {-1, 3, 6, MOST, LEAST}) {
            Alike.refused(Scenes::rich, "kinds(" + beast + ")", x -> x.kinds(beast), NONE);
        }
    }

    /** a FILM of none shows nothing that any KIND would not do */
    private static void kindsOfNoFilm() {
        for (int kind = 0; kind < 7; kind++) {
            kindsAre(alone(kind, 9, 34, "yield 4 n=0;come 2 n=0"), ALL);
        }
    }

    /** "at the ends of TENTHS from now on" */
    private static void kindsFromNowOn() {
        LionRing x = alone(3, 2, 21, "yield 9 t=1");
        kindsAre(x, ALL - COMING, 21);
        kindsAre(x, ALL - COMING, 21, 15);
        x.go(1);
        kindsAre(x, ALL - COMING, 15);
        x.go(1);
        // in TENTH 2 TAUGHT alone goes, back to its STOOL
        kindsAre(x, ALL - 32, 15);
        kindsAre(x, 32, 21);
        Check.due("of(0, 0): its own KIND is left to it", x.of(0, 0), 3);
    }

    /** "(10 at most)": the tenth CELL counts, too */
    private static void kindsOfTen() {
        LionRing x = alone(0, 0, 14, "yield 9 t=9");
        kindsAre(x, ALL, 14, 14, 14, 14, 14, 14, 14, 14, 14, 8);
        kindsAre(x, 0, 14, 14, 14, 14, 14, 14, 14, 14, 14, 14);
        kindsAre(x, ALL, 14, 14, 14, 14, 14, 14, 14, 14, 14);
        kindsAre(x, 0, 13, 14, 14, 14, 14, 14, 14, 14, 14, 8);
        kindsAre(x, 0, 35);
    }

    /** "with its v" */
    private static void kindsByItsV() {
        String lines = "yield 2 n=0;come 1 n=0";
        // FAR 2 of THE TAMER in 35: 33 yields to 27, comes to 34, stays
        int[] yields = {ALL, ALL - 8 - COMING, ALL - 8 - COMING};
        int[] comes = {0, COMING, COMING};
        int[] stays = {0, 8, 8};
        for (int v = 0; v < 3; v++) {
            LionRing x = alone(0, v, 33, lines);
            kindsAre(x, yields[v], 27);
            kindsAre(x, comes[v], 34);
            kindsAre(x, stays[v], 33);
        }
        // TAUGHT goes as far as v
        for (int v = 0; v < 4; v++) {
            LionRing x = alone(0, v, 0, "");
            x.set(0, 0, 2);
            kindsAre(x, v < 2 ? 0 : 32, 1);
            kindsAre(x, v < 2 ? 0 : 32, 1, 2, 2);
            kindsAre(x, v < 2 ? ALL : ALL - 32, 0);
        }
    }

    /** "all else as it is": other BEASTS do as told, one behind the other */
    private static void kindsAllElseAsItIs() {
        LionRing x = alone(0, 9, 33, "");
        x.beast(2, 9, 34, 0);
        // BEAST 1 holds 34 in its way until it has left it
        kindsAre(x, ALL - COMING, 33, 33);
        kindsAre(x, 0, 34);
        kindsAre(x, COMING, 33, 34);
        LionRing y = new LionRing();
        y.beast(2, 9, 34, 0);
        y.beast(0, 9, 33, 0);
        y.film(34);
        Check.due("kinds(1): BEAST 0 leaves ahead of it", y.kinds(1), COMING);
        Check.due("kinds(0): all but COMING stay in 34", y.kinds(0), ALL - 4);
    }

    /** a FILM goes on behind the TENTH in which THE TAMER is CAUGHT */
    private static void kindsThoughCaught() {
        LionRing x = alone(1, 9, 33, "");
        // COMING: to 34, 35 and there it stays; FEIGNED stays beside THE TAMER
        kindsAre(x, 4, 34, 35, 35, 35);
        kindsAre(x, 64, 34, 34, 34, 34);
        kindsAre(x, 0, 34, 35, 29);
        // the BEAST that has CAUGHT THE TAMER
        LionRing y = alone(2, 9, 34, "");
        y.go(1);
        kindsAre(y, SHY, 29);
        kindsAre(y, ALL - SHY, 35);
    }
}
