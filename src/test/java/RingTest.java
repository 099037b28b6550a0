/** Promises 7 and 8: feed and ring; what the CLAUSES of a RING come to. */
public final class RingTest {
    public static void main(String[] args) {
        feeding();
        faults();
        rings();
        tests();
        joinedTests();
        lines();
        Check.end();
    }

    private static void feeding() {
        LionRing x = new LionRing();
        Check.due("feed(yiel, 4)", x.feed('y' << 24 | 'i' << 16 | 'e' << 8 | 'l', 4), 4);
        Check.due("feed(.. d, 1): only the lowest byte", x.feed(0x12345600 | 'd', 1), 5);
        Check.due("feed( 4_, 3): the highest first", x.feed(' ' << 16 | '4' << 8 | ' ', 3), 8);
        Check.due("feed(n=, 2)", x.feed('n' << 8 | '=', 2), 10);
        Check.due("feed(0, 1)", x.feed('0', 1), 11);
        Check.due("ring()", x.ring(), 0);
        Check.due("count(4)", x.count(4), 0);
        Check.due("feed(9, 0)", x.feed(9, 0), 0);
        Check.due("feed(9, 5)", x.feed(9, 5), LionRing.BAD);
        Check.due("feed(9, -1)", x.feed(9, -1), LionRing.BAD);
        for (int i = 1; i <= 24; i++) {
            x.feed(0, 4);
        }
        Check.due("feed(0, 3)", x.feed(0, 3), 99);
        Check.due("feed(0, 2)", x.feed(0, 2), LionRing.FULL);
        Check.due("count(4): nothing of it came", x.count(4), 99);
        Check.due("feed(0, 1)", x.feed(0, 1), 100);
        Check.due("feed(0, 1) beyond", x.feed(0, 1), LionRing.FULL);
        Check.due("feed(0, 0) at 100", x.feed(0, 0), 100);
        Check.due("feed(0, 9) at 100: BAD ahead of FULL", x.feed(0, 9), LionRing.BAD);
        Check.due("ring() of 100 noughts", x.ring(), -10);
    }

    private static void fault(String text, int fault) {
        Check.due("ring() of " + text, Check.ring(new LionRing(), text), fault < 0 ? 0 : -10 - fault);
    }

    private static void faults() {
        fault("", 0);
        fault("x", 0);
        fault(";yield 1 n=1", 0);
        fault("yiel", 4);
        fault("yeld", 1);
        fault("yields", 5);
        fault("yield  1 n=1", 6);
        fault("yield x n=1", 6);
        fault("yield 5", 7);
        fault("yield 55", 8);
        fault("yield 555 n=1", 8);
        fault("yield 5 ", 8);
        fault("yield 5 n", 9);
        fault("yield 5 n=", 10);
        fault("yield 5 n=1", -1);
        fault("yield 05 n=01", -1);
        fault("yield 5 n=123", 12);
        fault("yield 5 n=1 ", 11);
        fault("yield 5 n= 1", 10);
        fault("yield 5 n!1", 9);
        fault("yield 5 m=1", 8);
        fault("yield 5 n=1&", 12);
        fault("yield 5 n=1|&", 12);
        fault("yield 5 n=1)", 11);
        fault("yield 5 ()", 9);
        fault("yield 5 (n=1", 12);
        fault("yield 5 (n=1;", 12);
        fault("yield 5 !", 9);
        fault("come 5 h>9", -1);
        fault("comer", 4);
        fault("loud 5", -1);
        fault("loud 55;loud 0", -1);
        fault("loud 5 n=1", 6);
        fault("loud", 4);
        fault("loud ", 5);
        fault("lout", 3);
        fault("loud 1;", 7);
        fault("loud 1;;", 7);
        fault("loud 1; loud 1", 7);
        fault("loud 1;loud 1;loud 1;loud 1;loud 1;loud 1;loud 1;loud 1", -1);
        fault("loud 1;loud 1;loud 1;loud 1;loud 1;loud 1;loud 1;loud 1;", 55);
        fault("come 1 ((((n=1))))", -1);
        fault("come 1 (((((n=1)))))", 11);
        fault("come 1 !!!!n=1", -1);
        fault("come 1 !!!!!n=1", 11);
        fault("come 1 !(!(n=1))", -1);
        fault("come 1 !(!(!n=1))", 11);
        fault("come 1 ((((n=1))))&!((!n=1))", -1);
        fault("come 1 (((!(n=1))))", 11);
        fault("come 1 n=1" + (char) 233, 10);
        fault("Come 1 n=1", 0);
    }

    private static void rings() {
        LionRing x = new LionRing();
        x.beast(0, 0, 14, 0);
        Check.due("of(0, 5) without a RING", x.of(0, 5), 0);
        for (int i = 0; i < 5; i++) {
            Check.due("ring " + i, Check.ring(x, "yield " + (i + 1) + " n=0"), i);
            Check.due("of(0, 5): the newest holds", x.of(0, 5), i + 1);
        }
        Check.due("a FAULT", Check.ring(x, "yield 9 n=0;"), -22);
        Check.due("of(0, 5): the one that held holds", x.of(0, 5), 5);
        Check.due("count(1)", x.count(1), 5);
        Check.due("count(4): empty by a FAULT, too", x.count(4), 0);
        Check.due("the sixth", Check.ring(x, "yield 6 n=0"), 5);
        Check.due("the seventh", Check.ring(x, "yield 7 n=0"), LionRing.FULL);
        Check.due("count(4): THE TEXT stays", x.count(4), 11);
        Check.due("count(1)", x.count(1), 6);
        Check.due("of(0, 5)", x.of(0, 5), 6);
        Check.due("a FAULT with 6", Check.ring(x, "?"), LionRing.FULL);
    }

    /** YIELDS of a BEAST in a scene of four BEASTS. */
    private static void yields(int beast, String e, boolean holds) {
        LionRing x = new LionRing();
        x.beast(0, 0, 0, 5);
        x.beast(0, 0, 1, 0);
        x.beast(0, 0, 12, 9);
        x.beast(0, 0, 21, 2);
        Check.due("reading " + e, Check.ring(x, "yield 3 " + e), 0);
        Check.due("YIELDS of " + beast + " by " + e, x.of(beast, 5), holds ? 3 : 0);
    }

    private static void tests() {
        yields(0, "n=0", true);
        yields(1, "n=0", false);
        yields(2, "n>1", true);
        yields(2, "n<2", false);
        yields(2, "n>2", false);
        yields(2, "n<03", true);
        yields(2, "n<10", true);
        yields(2, "n>10", false);
        yields(0, "h=5", true);
        yields(0, "h<5", false);
        yields(2, "h>8", true);
        yields(3, "h=2", true);
        // 0 in row 0, column 0: 1 is 1 off, 12 two rows off, 21 three
        yields(0, "b=2", true);
        yields(1, "b=2", true);
        yields(2, "b=2", true);
        yields(3, "b=0", true);
        // two edges and BEAST 1; one edge and BEAST 0; one edge; none
        yields(0, "c=3", true);
        yields(1, "c=2", true);
        yields(2, "c=1", true);
        yields(3, "c=0", true);
        yields(0, "t=0", true);
        LionRing x = new LionRing();
        x.beast(0, 0, 0, 0);
        Check.ring(x, "yield 7 t=59;yield 2 t=0");
        Check.due("t 0", x.of(0, 5), 2);
        x.go(59);
        Check.due("t 59", x.of(0, 5), 7);
        x.go(1);
        Check.due("t 60 is 0", x.of(0, 5), 2);
    }

    private static void joinedTests() {
        yields(0, "n=0|n=1&n=2", true);
        yields(0, "n=2&n=1|n=0", true);
        yields(0, "(n=0|n=1)&n=2", false);
        yields(0, "n=2&(n=1|n=0)", false);
        yields(0, "n=0&h=5&b=2", true);
        yields(0, "n=0&h=5&b=3", false);
        yields(0, "n=1|h=1|b=2", true);
        yields(0, "n=1|h=1|b=1", false);
        yields(0, "!n=1&n=2", false);
        yields(0, "!(n=1&n=2)", true);
        yields(0, "!n=0|n=0", true);
        yields(0, "!(n=0|n=1)", false);
        yields(0, "!!n=0", true);
        yields(0, "!!!n=0", false);
        yields(0, "n=1|(n=0&!(h=1|(b=1&c=3)))&c=3", true);
        yields(0, "((((n=1|h=5))))&!((!n=0))", true);
    }

    private static void lines(String text, int kind, int yields, int comes) {
        LionRing x = new LionRing();
        x.beast(kind, 4, 14, 3);
        Check.due("reading " + text, Check.ring(x, text), 0);
        Check.due("YIELDS by " + text, x.of(0, 5), yields);
        Check.due("COMES by " + text + ", KIND " + kind, x.of(0, 6), comes);
    }

    private static void lines() {
        lines("yield 2 n=0;yield 3 h=3;yield 4 n=1", 0, 5, 0);
        lines("yield 7 n=0;yield 3 h=3", 0, 9, 0);
        lines("yield 99 n=0", 0, 9, 0);
        lines("yield 5 n=0;come 2 n=0;come 1 n=0", 0, 5, 3);
        lines("come 2 n=0;yield 5 n=0", 0, 5, 2);
        lines("yield 5 n=0;come 5 n=0", 0, 5, 4);
        lines("yield 9 n=0;come 99 n=0", 0, 9, 8);
        lines("yield 1 n=0;come 5 n=0", 0, 1, 0);
        lines("come 5 n=0", 0, 0, 0);
        lines("come 5 n=0", 2, 0, 4);
        lines("yield 3 n=0;come 5 n=0", 2, 3, 6);
        lines("yield 3 n=0;come 5 n=0", 6, 3, 6);
        lines("yield 3 n=0;come 5 n=0", 1, 3, 2);
        lines("yield 3 n=0;come 5 n=0", 3, 3, 2);
        lines("yield 3 n=0;come 5 n=0", 4, 3, 2);
        lines("yield 3 n=0;come 5 n=0", 5, 3, 2);
        lines("yield 3 n=0;loud 9", 0, 3, 0);
    }
}
