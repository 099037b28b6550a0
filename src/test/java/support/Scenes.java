/** Scenes that hold something of all there is, so that a call that changes anything can be seen. */
final class Scenes {
    private Scenes() {
    }

    /** Three BEASTS, and room for more of everything. */
    static LionRing rich() {
        LionRing x = new LionRing();
        x.tamer(14);
        x.beast(0, 3, 0, 5);
        x.beast(2, 1, 22, 9);
        x.beast(5, 9, 33, 0);
        x.set(1, 0, 23);
        x.set(2, 0, 31);
        x.enemies(0, 2, true);
        Check.ring(x, "yield 2 n<9;come 1 h>4;loud 2");
        x.thunder(4);
        x.walk(15);
        x.walk(9);
        x.film(0);
        x.film(1);
        x.tape(0, 0, 3);
        x.item(0, 0, 0);
        x.item(0, 1, 22);
        x.item(0, 2, 7);
        x.tape(1, 3, 2);
        x.item(1, 0, -9);
        x.image();
        x.go(1);
        x.set(0, 1, 6);
        x.act(1, 2, 5);
        Check.feed(x, "yield 2 n=0");
        return x;
    }

    /** As many of everything as there may be: BEASTS, RINGS, WALK, FILM, THE TEXT. */
    static LionRing full() {
        LionRing x = rich();
        x.beast(1, 2, 5, 1);
        x.beast(3, 2, 30, 2);
        x.beast(6, 9, 11, 3);
        x.ring();
        for (int i = 2; i < 6; i++) {
            Check.ring(x, "yield 2 n<9;come " + i + " n=0");
        }
        for (int i = 2; i < 12; i++) {
            x.walk(9);
        }
        for (int i = 2; i < 10; i++) {
            x.film(6);
        }
        for (int i = 0; i < 25; i++) {
            x.feed('y' << 24 | 'i' << 16 | 'e' << 8 | 'l', 4);
        }
        return x;
    }
}
