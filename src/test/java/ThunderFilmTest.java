/** Promises 18 to 21: thunder, calm, film, kinds. */
public final class ThunderFilmTest {
    public static void main(String[] args) {
        thunder();
        calm();
        film();
        kinds();
        Check.end();
    }

    private static void thunder() {
        LionRing x = new LionRing();
        Check.due("thunder(3)", x.thunder(3), 0);
        Check.due("thunder(11)", x.thunder(11), LionRing.BAD);
        Check.due("thunder(-1)", x.thunder(-1), LionRing.BAD);
        Check.due("thunder(10)", x.thunder(10), 3);
        Check.due("thunder(0)", x.thunder(0), 10);
        Check.due("thunder(0)", x.thunder(0), 0);
    }

    private static void calmIs(LionRing x, int odds, int n, long above, long below) {
        x.thunder(odds);
        Check.due("calm(" + n + ", 0) with odds " + odds, x.calm(n, 0), above);
        Check.due("calm(" + n + ", 1) with odds " + odds, x.calm(n, 1), below);
    }

    private static void calm() {
        LionRing x = new LionRing();
        calmIs(x, 5, 6, 1, 1);
        x.beast(0, 0, 34, 0);
        // only by THUNDER it comes, as loud is 1 without a RING
        calmIs(x, 0, 6, 1, 1);
        calmIs(x, 10, 1, 0, 1);
        calmIs(x, 5, 1, 1, 2);
        calmIs(x, 5, 6, 1, 64);
        calmIs(x, 3, 2, 49, 100);
        calmIs(x, 4, 6, 729, 15625);
        calmIs(x, 9, 6, 1, 1000000);
        Check.due("calm(0, 0)", x.calm(0, 0), LionRing.NO);
        Check.due("calm(7, 0)", x.calm(7, 0), LionRing.NO);
        Check.due("calm(1, 2)", x.calm(1, 2), LionRing.NO);
        Check.due("calm(1, -1)", x.calm(1, -1), LionRing.NO);
        Check.due("of(0, 2)", x.of(0, 2), 34);
        Check.due("count(5)", x.count(5), 0);
        Check.ring(x, "loud 0");
        calmIs(x, 5, 6, 1, 1);
        Check.ring(x, "loud 2;loud 1");
        calmIs(x, 5, 1, 1, 2);
        LionRing y = new LionRing();
        y.beast(0, 0, 33, 0);
        calmIs(y, 10, 6, 1, 1);
        Check.ring(y, "loud 1;loud 2");
        // two THUNDERS bring it
        calmIs(y, 5, 1, 1, 1);
        calmIs(y, 5, 2, 3, 4);
        calmIs(y, 5, 3, 1, 2);
        calmIs(y, 10, 2, 0, 1);
        Check.ring(y, "yield 1 n=5");
        // loud is 1 again
        calmIs(y, 10, 6, 1, 1);
        LionRing z = new LionRing();
        z.beast(2, 1, 33, 0);
        // with THUNDER it comes from 2 off; from then on it comes by itself
        calmIs(z, 5, 2, 1, 2);
        calmIs(z, 5, 3, 1, 4);
        LionRing w = new LionRing();
        w.beast(1, 0, 34, 0);
        calmIs(w, 10, 6, 1, 1);
        LionRing v = new LionRing();
        v.beast(0, 0, 34, 0);
        Check.ring(v, "yield 1 t=0;yield 1 t=1;loud 1");
        // without THUNDER it yields at once and is too far then; with it, it comes: YIELDS less 1 is ahead of loud
        calmIs(v, 5, 2, 1, 2);
        LionRing u = new LionRing();
        u.beast(2, 9, 34, 0);
        u.go(1);
        u.set(0, 0, 0);
        Check.ring(u, "yield 9 n=0");
        calmIs(u, 0, 6, 0, 1);
    }

    private static void film() {
        LionRing x = new LionRing();
        Check.due("film(36)", x.film(36), LionRing.NONE);
        Check.due("film(-2)", x.film(-2), LionRing.NONE);
        for (int i = 1; i <= 10; i++) {
            Check.due("film(4)", x.film(4), i);
        }
        Check.due("film(4)", x.film(4), LionRing.FULL);
        Check.due("film(36): NONE ahead of FULL", x.film(36), LionRing.NONE);
        Check.due("count(3)", x.count(3), 10);
        Check.due("film(-1)", x.film(-1), 0);
        Check.due("count(3)", x.count(3), 0);
        Check.due("film(0)", x.film(0), 1);
    }

    private static void kindsAre(LionRing x, int bits, int... cells) {
        x.film(-1);
        for (int c : cells) {
            x.film(c);
        }
        Check.due("kinds(0) of " + cells.length, x.kinds(0), bits);
    }

    private static void kinds() {
        LionRing x = new LionRing();
        Check.due("kinds(0)", x.kinds(0), LionRing.NONE);
        x.beast(0, 9, 34, 0);
        kindsAre(x, 127);
        kindsAre(x, 123, 34);
        kindsAre(x, 4, 35);
        kindsAre(x, 0, 33);
        kindsAre(x, 123, 34, 34, 34);
        Check.due("kinds(1)", x.kinds(1), LionRing.NONE);
        Check.due("kinds(-1)", x.kinds(-1), LionRing.NONE);
        Check.due("of(0, 0)", x.of(0, 0), 0);
        Check.due("of(0, 2)", x.of(0, 2), 34);
        x.set(0, 0, 32);
        // TAUGHT goes toward its STOOL
        kindsAre(x, 32, 33, 32, 32);
        kindsAre(x, 91, 34);
        x.tamer(0);
        x.set(0, 0, 34);
        Check.ring(x, "yield 5 n=0;come 4 n=0");
        // yielding: 35; COMING by its v of 9: 28, then 22; REFUSING in TENTH 0 alone
        kindsAre(x, 1 + 2 + 16 + 32, 35);
        kindsAre(x, 4 + 64, 28, 22);
        kindsAre(x, 8, 34, 35);
        kindsAre(x, 0, 34, 34);
        LionRing y = new LionRing();
        y.beast(4, 0, 0, 0);
        y.tamer(14);
        Check.ring(y, "yield 2 n=0");
        // in the corner CORNERED alone comes
        kindsAre(y, 16, 1);
        kindsAre(y, 111, 0);
    }
}
