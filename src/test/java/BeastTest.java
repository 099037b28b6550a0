/** Promises 1 to 6: a new object, beast, of, set, enemies, tamer. */
public final class BeastTest {
    public static void main(String[] args) {
        aNewObject();
        beasts();
        answersOfABeast();
        settings();
        enemies();
        tamer();
        Check.end();
    }

    private static void aNewObject() {
        LionRing x = new LionRing();
        int[] counts = {0, 0, 0, 0, 0, 0, 0, 35};
        for (int what = 0; what < 8; what++) {
            Check.due("new: count(" + what + ")", x.count(what), counts[what]);
        }
        Check.due("new: of(0, 0)", x.of(0, 0), LionRing.NONE);
        Check.due("new: undo()", x.undo(), LionRing.STATE);
        Check.due("new: thunder(0)", x.thunder(0), 0);
        Check.due("new: trace(0)", x.trace(0), LionRing.NONE);
        Check.due("new: read(0, 0)", x.read(0, 0), LionRing.NO);
        Check.due("new: safe()", x.safe(), (1L << 36) - 1);
        Check.due("new: go(60)", x.go(60), -5);
        Check.due("new: count(5)", x.count(5), 60);
    }

    private static void beasts() {
        LionRing x = new LionRing();
        Check.due("beast(-1, 0, 1, 0)", x.beast(-1, 0, 1, 0), LionRing.NONE);
        Check.due("beast(7, 0, 1, 0)", x.beast(7, 0, 1, 0), LionRing.NONE);
        Check.due("beast(0, 0, -1, 0)", x.beast(0, 0, -1, 0), LionRing.NONE);
        Check.due("beast(0, 0, 36, 0)", x.beast(0, 0, 36, 0), LionRing.NONE);
        Check.due("beast(0, -1, 36, 0): NONE is named first", x.beast(0, -1, 36, 0), LionRing.NONE);
        Check.due("beast(0, -1, 1, 0)", x.beast(0, -1, 1, 0), LionRing.BAD);
        Check.due("beast(0, 10, 1, 0)", x.beast(0, 10, 1, 0), LionRing.BAD);
        Check.due("beast(0, 0, 1, -1)", x.beast(0, 0, 1, -1), LionRing.BAD);
        Check.due("beast(0, 0, 35, 10): BAD ahead of STATE", x.beast(0, 0, 35, 10), LionRing.BAD);
        Check.due("beast(0, 0, 35, 0): THE TAMER's", x.beast(0, 0, 35, 0), LionRing.STATE);
        Check.due("beast(6, 9, 0, 9)", x.beast(6, 9, 0, 9), 0);
        Check.due("beast(0, 0, 0, 0): a BEAST's", x.beast(0, 0, 0, 0), LionRing.STATE);
        x.set(0, 0, 7);
        Check.due("beast(0, 0, 7, 0): a STOOL", x.beast(0, 0, 7, 0), LionRing.STATE);
        for (int i = 1; i < 6; i++) {
            Check.due("beast " + i, x.beast(i, i, 10 + i, 9 - i), i);
        }
        Check.due("beast(0, 0, 7, 0): STATE ahead of FULL", x.beast(0, 0, 7, 0), LionRing.STATE);
        Check.due("beast(0, 0, 1, 0)", x.beast(0, 0, 1, 0), LionRing.FULL);
        Check.due("count(0)", x.count(0), 6);
        Check.due("of(5, 0): refusals changed nothing", x.of(5, 0), 5);
    }

    private static void answersOfABeast() {
        LionRing x = new LionRing();
        x.beast(0, 1, 14, 3);
        x.beast(6, 4, 20, 8);
        int[] first = {0, 1, 14, 14, 3, 5, 2, 1};
        int[] second = {6, 4, 20, 20, 8, 5, 6, 2};
        Check.ring(x, "yield 5 n<9;come 2 n<9");
        for (int what = 0; what < 8; what++) {
            Check.due("of(0, " + what + ")", x.of(0, what), first[what]);
            Check.due("of(1, " + what + ")", x.of(1, what), second[what]);
        }
        Check.due("of(0, -1)", x.of(0, -1), LionRing.NONE);
        Check.due("of(0, 8)", x.of(0, 8), LionRing.NONE);
        Check.due("of(2, 0)", x.of(2, 0), LionRing.NONE);
        Check.due("of(-1, 0)", x.of(-1, 0), LionRing.NONE);
        Check.due("count(5): asking passes no TENTH", x.count(5), 0);
        Check.due("of(0, 2): asking moves none", x.of(0, 2), 14);
        x.thunder(10);
        Check.due("of(0, 5): THUNDER is in CALM alone", x.of(0, 5), 5);
    }

    private static void settings() {
        LionRing x = new LionRing();
        x.beast(0, 0, 3, 7);
        x.beast(0, 0, 4, 2);
        Check.due("set(0, 0, 10)", x.set(0, 0, 10), 3);
        Check.due("of(0, 3)", x.of(0, 3), 10);
        Check.due("of(0, 2)", x.of(0, 2), 3);
        Check.due("set(0, 0, 10) again", x.set(0, 0, 10), 10);
        Check.due("set(1, 0, 10)", x.set(1, 0, 10), LionRing.STATE);
        Check.due("set(1, 0, 3): a BEAST stands there, no STOOL", x.set(1, 0, 3), 4);
        Check.due("set(1, 0, 35): THE TAMER's CELL", x.set(1, 0, 35), 3);
        Check.due("set(0, 1, 0)", x.set(0, 1, 0), 7);
        Check.due("set(0, 1, 9)", x.set(0, 1, 9), 0);
        Check.due("of(0, 4)", x.of(0, 4), 9);
        Check.due("set(0, 1, 10)", x.set(0, 1, 10), LionRing.BAD);
        Check.due("set(0, 1, -1)", x.set(0, 1, -1), LionRing.BAD);
        Check.due("set(0, 0, 36)", x.set(0, 0, 36), LionRing.BAD);
        Check.due("set(0, 0, -1)", x.set(0, 0, -1), LionRing.BAD);
        Check.due("set(0, 2, -1)", x.set(0, 2, -1), LionRing.NONE);
        Check.due("set(0, -1, 0)", x.set(0, -1, 0), LionRing.NONE);
        Check.due("set(2, 0, 99)", x.set(2, 0, 99), LionRing.NONE);
        Check.due("set(-1, 0, 0)", x.set(-1, 0, 0), LionRing.NONE);
    }

    private static void enemies() {
        LionRing x = new LionRing();
        x.beast(0, 0, 3, 0);
        x.beast(0, 0, 4, 0);
        x.beast(0, 0, 9, 0);
        Check.due("enemies(0, 1, true)", x.enemies(0, 1, true), 0);
        Check.due("enemies(1, 0, true)", x.enemies(1, 0, true), 1);
        Check.due("enemies(1, 2, false)", x.enemies(1, 2, false), 0);
        Check.due("enemies(1, 0, false)", x.enemies(1, 0, false), 1);
        Check.due("enemies(0, 1, false)", x.enemies(0, 1, false), 0);
        Check.due("enemies(1, 1, true)", x.enemies(1, 1, true), LionRing.BAD);
        Check.due("enemies(3, 3, true)", x.enemies(3, 3, true), LionRing.NONE);
        Check.due("enemies(0, 3, true)", x.enemies(0, 3, true), LionRing.NONE);
        Check.due("enemies(-1, 0, true)", x.enemies(-1, 0, true), LionRing.NONE);
    }

    private static void tamer() {
        LionRing x = new LionRing();
        x.beast(0, 0, 3, 0);
        x.set(0, 0, 8);
        Check.due("tamer(0)", x.tamer(0), 35);
        Check.due("tamer(0) again", x.tamer(0), 0);
        Check.due("tamer(8): a STOOL is no BEAST", x.tamer(8), 0);
        Check.due("tamer(3)", x.tamer(3), LionRing.STATE);
        Check.due("tamer(36)", x.tamer(36), LionRing.NONE);
        Check.due("tamer(-1)", x.tamer(-1), LionRing.NONE);
        Check.due("count(7)", x.count(7), 8);
    }
}
