/** The boundary cases of THE TEXT and of RINGS, and of promises 7 and 8, a test for each sentence. */
public final class EdgeRingTest {
    private static final int BAD = LionRing.BAD, FULL = LionRing.FULL;
    private static final int MOST = Integer.MAX_VALUE, LEAST = Integer.MIN_VALUE;

    public static void main(String[] args) {
        feedBad();
        feedFull();
        feedBytes();
        textOf100Bytes();
        clausesFrom1To8();
        oneBlank();
        nOf1Or2Digits();
        wordsAndSigns();
        testOf1Or2Digits();
        lettersAndComparisons();
        bigNumbersInTests();
        numberOfABeast();
        hungerOfABeast();
        nearOnes();
        missingOrHeld();
        tenthModulo60();
        withinFourOthers();
        theFault();
        textEndsTooEarly();
        newestHolds();
        sixRings();
        emptyByAFault();
        withoutARing();
        yieldsNineAtMost();
        comesBelowYields();
        loudOfTheLast();
        Check.end();
    }

    // ---- promise 7

    private static void feedIs(int bytes, int n, int want) {
        Alike.refused(Scenes::rich, "feed(" + bytes + ", " + n + ")", x -> x.feed(bytes, n), want);
    }

    /** "BAD" */
    private static void feedBad() {
        feedIs('a', -1, BAD);
        feedIs('a', 5, BAD);
        feedIs('a', MOST, BAD);
        feedIs('a', LEAST, BAD);
        Alike.refused(Scenes::full, "feed('a', 5), THE TEXT full", x -> x.feed('a', 5), BAD);
        Alike.refused(Scenes::full, "feed('a', -1), THE TEXT full", x -> x.feed('a', -1), BAD);
    }

    /** "FULL": 100 bytes at most, and none of those that are too many comes */
    private static void feedFull() {
        for (int n = 1; n <= 4; n++) {
            int more = n;
            Alike.refused(Scenes::full, "feed('a', " + n + "), THE TEXT full", x -> x.feed('a', more), FULL);
        }
        for (int room = 0; room <= 4; room++) {
            for (int n = 0; n <= 4; n++) {
                LionRing x = new LionRing();
                for (int i = room; i < 100; i++) {
                    x.feed('a', 1);
                }
                boolean fits = n <= room;
                Check.due("feed of " + n + ", room for " + room, x.feed(0, n), fits ? 100 - room + n : FULL);
                Check.due("count(4)", x.count(4), fits ? 100 - room + n : 100 - room);
            }
        }
    }

    /** "The n lowest bytes of a number, the highest first (n 0 .. 4)" */
    private static void feedBytes() {
        LionRing x = new LionRing();
        Check.due("feed(-1, 0)", x.feed(-1, 0), 0);
        Check.due("feed(loud, 4)", x.feed('l' << 24 | 'o' << 16 | 'u' << 8 | 'd', 4), 4);
        Check.due("feed(.. 4, 2)", x.feed(0xffff0000 | ' ' << 8 | '4', 2), 6);
        Check.due("feed(.. ;co, 3)", x.feed(0x80000000 | ';' << 16 | 'c' << 8 | 'o', 3), 9);
        Check.due("feed(.. m, 1)", x.feed(0xffffff00 | 'm', 1), 10);
        Check.feed(x, "e 3 n=0");
        Check.due("ring()", x.ring(), 0);
        // a byte is not 7 bits, and its sign is none
        faultOf("come 3 n" + (char) ('=' + 128) + "0", 8);
        faultOf("loud 1" + (char) 255, 6);
        LionRing y = new LionRing();
        y.feed(-1, 4);
        Check.due("ring() of 255s", y.ring(), -10);
    }

    // ---- the grammar

    private static void faultOf(String text, int fault) {
        LionRing x = new LionRing();
        Check.due("ring() of " + text, Check.ring(x, text), -10 - fault);
        Check.due("count(1)", x.count(1), 0);
        Check.due("count(4)", x.count(4), 0);
    }

    private static void reads(String text) {
        LionRing x = new LionRing();
        Check.due("ring() of " + text, Check.ring(x, text), 0);
        Check.due("count(1)", x.count(1), 1);
        Check.due("count(4)", x.count(4), 0);
    }

    private static String times(String part, int n) {
        return part.repeat(n);
    }

    /** "THE TEXT (bytes, 100 at most)" */
    private static void textOf100Bytes() {
        String text = "yield 1 n=0" + times("&n=0", 22);
        Check.due("its length", text.length(), 99);
        reads(text);
        String longest = "yield 1 n=0" + times("&n=0", 21) + "&n=00";
        Check.due("its length", longest.length(), 100);
        reads(longest);
        LionRing x = new LionRing();
        x.beast(0, 0, 0, 0);
        Check.ring(x, longest);
        Check.due("of(0, 5): all 100 were read", x.of(0, 5), 1);
        LionRing y = new LionRing();
        y.beast(0, 0, 0, 0);
        Check.ring(y, "yield 1 n=0" + times("&n=0", 21) + "&n=01");
        Check.due("of(0, 5): the last one counts", y.of(0, 5), 0);
        faultOf("yield 1 n=0" + times("&n=0", 21) + "&n=0&", 100);
        // the 101st byte was refused
        LionRing z = new LionRing();
        Check.due("feeding 101", Check.ring(z, longest + "x"), 0);
    }

    /** "CLAUSES, 1 to 8, with ; between" */
    private static void clausesFrom1To8() {
        faultOf("", 0);
        for (int n = 1; n <= 8; n++) {
            reads("loud 7" + times(";loud 5", n - 1));
            if (n < 8) {
                faultOf("loud 7" + times(";loud 5", n - 1) + ";", 7 * n);
            }
        }
        // a ninth can't be, so no ; behind the eighth
        faultOf("loud 7" + times(";loud 5", 8), 55);
        faultOf("loud 7" + times(";loud 5", 7) + ";", 55);
        faultOf(";", 0);
        faultOf("loud 7;;loud 5", 7);
        faultOf("loud 7 ;loud 5", 6);
        faultOf("loud 7; loud 5", 7);
        LionRing x = new LionRing();
        x.beast(0, 0, 0, 0);
        Check.ring(x, "yield 1 n=0" + times(";yield 1 n=0", 7));
        Check.due("of(0, 5): all eight count", x.of(0, 5), 8);
    }

    /** "one blank ahead of each part behind the word" */
    private static void oneBlank() {
        for (String word : new String[] {"yield", "come"}) {
            int n = word.length();
            reads(word + " 1 n=1");
            faultOf(word + "1 n=1", n);
            faultOf(word + "  1 n=1", n + 1);
            faultOf(word + " 1n=1", n + 2);
            faultOf(word + " 1  n=1", n + 3);
            faultOf(word + " 1 n=1 ", n + 6);
            faultOf(" " + word + " 1 n=1", 0);
        }
        faultOf("loud1", 4);
        faultOf("loud  1", 5);
        faultOf("loud 1 ", 6);
        faultOf("yield 1 n =1", 9);
        faultOf("yield 1 n= 1", 10);
        faultOf("yield 1 ( n=1)", 9);
        faultOf("yield 1 (n=1 )", 12);
        faultOf("yield 1 ! n=1", 9);
        faultOf("yield 1 n=1 |n=1", 11);
        faultOf("yield 1 n=1| n=1", 12);
        faultOf("yield 1 n=1& n=1", 12);
    }

    /** "n 1 or 2 digits" */
    private static void nOf1Or2Digits() {
        reads("yield 0 n=1");
        reads("yield 00 n=1");
        reads("come 99 n=1");
        reads("loud 0");
        reads("loud 99");
        faultOf("yield  n=1", 6);
        faultOf("yield n=1", 6);
        faultOf("yield 123 n=1", 8);
        faultOf("come 000 n=1", 7);
        faultOf("loud ", 5);
        faultOf("loud 100", 7);
        faultOf("loud -1", 5);
        faultOf("loud +1", 5);
        faultOf("loud /", 5);
        faultOf("loud :", 5);
        faultOf("loud 1/", 6);
        faultOf("loud 1:", 6);
    }

    /** "yield n E; come n E; loud n", each word whole and in small letters */
    private static void wordsAndSigns() {
        for (String word : new String[] {"yield", "come", "loud"}) {
            for (int i = 0; i < word.length(); i++) {
                faultOf(word.substring(0, i), i);
                faultOf(word.substring(0, i) + "z", i);
                faultOf(word.substring(0, i) + word.substring(i).toUpperCase(), i);
            }
            faultOf(word, word.length());
            faultOf(word + "s", word.length());
        }
        faultOf("loud 1 n=1", 6);
        faultOf("yield 1", 7);
        faultOf("come 1;come 1 n=1", 6);
    }

    /** "a number (1 or 2 digits)" */
    private static void testOf1Or2Digits() {
        reads("come 1 n=0");
        reads("come 1 n=00");
        reads("come 1 n=99");
        faultOf("come 1 n=", 9);
        faultOf("come 1 n=;", 9);
        faultOf("come 1 n=x", 9);
        faultOf("come 1 n=-1", 9);
        faultOf("come 1 n=100", 11);
        faultOf("come 1 n=000", 11);
        faultOf("come 1 n=1:", 10);
        faultOf("come 1 n=/", 9);
    }

    /** "a letter, < or = or >" */
    private static void lettersAndComparisons() {
        for (char letter = 'a'; letter <= 'z'; letter++) {
            if ("nhbct".indexOf(letter) >= 0) {
                reads("come 1 " + letter + "<1");
                reads("come 1 " + letter + "=1");
                reads("come 1 " + letter + ">1");
                faultOf("come 1 " + letter + ";1", 8);
                faultOf("come 1 " + letter + "?1", 8);
                faultOf("come 1 " + letter + "<=1", 9);
                faultOf("come 1 " + letter + "==1", 9);
                faultOf("come 1 " + letter + "1", 8);
                faultOf("come 1 " + letter + letter + "=1", 8);
                faultOf("come 1 " + Character.toUpperCase(letter) + "=1", 7);
            } else {
                faultOf("come 1 " + letter + "=1", 7);
            }
        }
        faultOf("come 1 1=n", 7);
    }

    /** YIELDS of a BEAST by a TEST, in a scene of its own. */
    private static void holds(LionRing x, int beast, String e, boolean holds) {
        Check.due("reading " + e, Check.ring(x, "yield 1 " + e) >= 0 ? 1 : 0, 1);
        Check.due(e + " of BEAST " + beast, x.of(beast, 5), holds ? 1 : 0);
    }

    /** What a letter stands for is just n, as three TESTS tell. */
    private static void standsFor(LionRing x, int beast, char letter, int n) {
        String tests = "yield 1 " + letter + "=" + n + ";yield 2 " + letter + "<" + n + ";yield 4 " + letter + ">" + n;
        Check.due("reading " + tests, Check.ring(x, tests) >= 0 ? 1 : 0, 1);
        Check.due(letter + " of BEAST " + beast, x.of(beast, 5), 1);
    }

    private static void bigNumbersInTests() {
        LionRing x = new LionRing();
        x.beast(0, 0, 14, 9);
        holds(x, 0, "h<99", true);
        holds(x, 0, "h>99", false);
        holds(x, 0, "h=09", true);
        holds(x, 0, "h<10", true);
        holds(x, 0, "h>08", true);
        holds(x, 0, "h=90", false);
    }

    /** "of a BEAST n its number" */
    private static void numberOfABeast() {
        for (int i = 0; i < 6; i++) {
            LionRing x = new LionRing();
            for (int b = 0; b < 6; b++) {
                x.beast(0, 0, 4 * b, 0);
            }
            standsFor(x, i, 'n', i);
        }
    }

    /** "h HUNGER" */
    private static void hungerOfABeast() {
        for (int h = 0; h <= 9; h++) {
            LionRing x = new LionRing();
            x.beast(0, 0, 4, 9 - h);
            x.beast(0, 0, 5, h);
            standsFor(x, 1, 'h', h);
            x.set(1, 1, 9 - h);
            standsFor(x, 1, 'h', 9 - h);
        }
    }

    /** "b how many other BEASTS are no farther than 2 from it" */
    private static void nearOnes() {
        nearOnes(0);
        nearOnes(1, 0);
        nearOnes(2, 2, 28);
        nearOnes(2, 2, 12);
        // two rows and two columns off is FAR 2; three of either is too far
        nearOnes(0, 17);
        nearOnes(0, 32);
        nearOnes(0, 29, 30);
        nearOnes(2, 29, 26, 13);
        nearOnes(5, 0, 4, 24, 28, 13);
        // THE TAMER is none
        LionRing x = new LionRing();
        x.beast(0, 0, 14, 0);
        x.tamer(15);
        standsFor(x, 0, 'b', 0);
    }

    private static void nearOnes(int near, int... others) {
        LionRing x = new LionRing();
        x.beast(0, 0, 14, 0);
        for (int c : others) {
            x.beast(0, 0, c, 0);
        }
        standsFor(x, 0, 'b', near);
    }

    /** "c how many of the CELLS NEXT to its own are missing (beyond the edge) or have a BEAST" */
    private static void missingOrHeld() {
        for (int cell = 0; cell < 35; cell++) {
            LionRing x = new LionRing();
            x.beast(0, 0, cell, 0);
            int missing = (cell < 6 || cell > 29 ? 1 : 0) + (cell % 6 == 0 || cell % 6 == 5 ? 1 : 0);
            standsFor(x, 0, 'c', missing);
        }
        LionRing x = new LionRing();
        x.beast(0, 0, 14, 0);
        x.beast(0, 0, 7, 0);
        standsFor(x, 0, 'c', 0);
        int[] next = {8, 13, 15, 20};
        for (int i = 0; i < 4; i++) {
            x.beast(0, 0, next[i], 0);
            standsFor(x, 0, 'c', i + 1);
        }
        // THE TAMER in a CELL leaves it open
        LionRing y = new LionRing();
        y.tamer(15);
        y.beast(0, 0, 14, 0);
        standsFor(y, 0, 'c', 0);
        LionRing z = new LionRing();
        z.beast(0, 0, 0, 0);
        z.beast(0, 0, 1, 0);
        z.beast(0, 0, 6, 0);
        standsFor(z, 0, 'c', 4);
    }

    /** "t the TENTH modulo 60" */
    private static void tenthModulo60() {
        int[] behind = {0, 1, 58, 59, 60, 61, 119, 120, 121, 180};
        for (int tenths : behind) {
            LionRing x = new LionRing();
            x.beast(0, 0, 0, 0);
            for (int left = tenths; left > 0; left -= 60) {
                x.go(Math.min(60, left));
            }
            Check.due("count(5)", x.count(5), tenths);
            standsFor(x, 0, 't', tenths % 60);
        }
        LionRing x = new LionRing();
        x.beast(0, 0, 0, 0);
        x.go(60);
        holds(x, 0, "t=60", false);
        holds(x, 0, "t<60", true);
    }

    /** "A ( or ! within 4 others is none." */
    private static void withinFourOthers() {
        String[] open = {"(", "!", "!(", "(!", "(!(", "!!((", "(!!("};
        for (String signs : open) {
            String four = times(signs, 4).substring(0, 4);
            String shut = four.replace("!", "").replace("(", ")");
            reads("come 1 " + four + "n=1" + shut);
            faultOf("come 1 " + four + "(n=1)" + shut, 11);
            faultOf("come 1 " + four + "!n=1" + shut, 11);
            faultOf("come 1 n=1&" + four + "!n=1" + shut, 15);
        }
        // those that are shut again are none of the others
        reads("come 1 (n=1)&(n=1)&(n=1)&(n=1)&(n=1)&((((n=1))))");
        reads("come 1 !n=1&!n=1&!n=1&!n=1&!n=1&!!!!n=1");
        reads("come 1 (!n=1&!n=1&!n=1&!n=1&((!n=1)))");
        reads("come 1 ((((n=1))))|((((n=1))));come 1 !!!!n=1");
        reads("come 1 ((((n=1)&n=1)|n=1)&n=1)");
        faultOf("come 1 (n=1)&((((!n=1))))", 17);
        faultOf("come 1 (((n=1&(n=1&(n=1)))))", 19);
        faultOf("come 1 ((((n=1)&(!n=1))))", 17);
        // a ! is within what it stands before, not within what follows that
        reads("come 1 !!!!n=1&!!!!n=1|!!!!n=1");
        reads("come 1 (!!!n=1&!!!n=1)");
        faultOf("come 1 (!!!n=1&!!!!n=1)", 18);
    }

    /** "The FAULT: the place of the first byte with which none begins so" */
    private static void theFault() {
        faultOf("x", 0);
        faultOf("?yield 1 n=1", 0);
        faultOf("yield 1 n=1x", 11);
        faultOf("yield 1 n=1)", 11);
        faultOf("yield 1 n=1))", 11);
        faultOf("yield 1 )n=1", 8);
        faultOf("yield 1 ()", 9);
        faultOf("yield 1 (n=1;come 1 n=1)", 12);
        faultOf("yield 1 n=1||n=1", 12);
        faultOf("yield 1 n=1&&n=1", 12);
        faultOf("yield 1 n=1|&n=1", 12);
        faultOf("yield 1 |n=1", 8);
        faultOf("yield 1 &n=1", 8);
        faultOf("yield 1 n=1!n=1", 11);
        faultOf("yield 1 n=1(n=1)", 11);
        faultOf("yield 1 (n=1)(n=1)", 13);
        faultOf("yield 1 (n=1)n=1", 13);
        faultOf("yield 1 !", 9);
        faultOf("yield 1 !&n=1", 9);
        faultOf("yield 1 n=1" + (char) 0, 11);
        // the first one, though there are two
        faultOf("yeld 1 n=1;cone 1", 1);
        faultOf("yield 1 n=1;cone 1 n=1", 14);
        // the last place there is
        faultOf("yield 1 n=0" + times("&n=0", 21) + "&n=0;", 100);
        faultOf("yield 1 n=0" + times("&n=0", 22) + "x", 99);
    }

    /** "(the end of THE TEXT, if it ends too early)": each beginning of a text that is no RING itself */
    private static void textEndsTooEarly() {
        String text = "loud 12;yield 34 !(n=56|h<7)&b>8;come 9 ((c=10))";
        // behind loud 1, loud 12, the ), b>8 and all
        String whole = " 6 7 28 32 48 ";
        for (int length = 0; length <= text.length(); length++) {
            String begun = text.substring(0, length);
            if (whole.contains(" " + length + " ")) {
                reads(begun);
            } else {
                faultOf(begun, length);
            }
        }
    }

    // ---- promise 8

    /** "The newest RING holds" */
    private static void newestHolds() {
        LionRing x = new LionRing();
        x.beast(0, 0, 0, 0);
        for (int i = 0; i < 6; i++) {
            Check.due("ring()", Check.ring(x, "yield " + (i + 2) + " n=0;come " + i + " n=0"), i);
            Check.due("of(0, 5)", x.of(0, 5), i + 2);
            Check.due("of(0, 6)", x.of(0, 6), i);
        }
    }

    /** "FULL: there are 6 (THE TEXT stays)" */
    private static void sixRings() {
        Alike.refused(Scenes::full, "ring() of six", x -> x.ring(), FULL);
        LionRing x = new LionRing();
        x.beast(0, 0, 0, 0);
        for (int i = 0; i < 6; i++) {
            Check.due("ring()", Check.ring(x, "yield 4 n=0"), i);
        }
        Check.due("ring() of nothing", x.ring(), FULL);
        Check.feed(x, "yield 3 n=0");
        Check.due("ring()", x.ring(), FULL);
        Check.due("count(4): THE TEXT stays", x.count(4), 11);
        Check.due("ring() again", x.ring(), FULL);
        Check.due("feed: behind it", x.feed('?', 1), 12);
        Check.due("ring(): a FAULT would be no other answer", x.ring(), FULL);
        Check.due("count(1)", x.count(1), 6);
        Check.due("of(0, 5)", x.of(0, 5), 4);
        // RINGS are not undone, so there is room for none
        LionRing y = new LionRing();
        y.image();
        for (int i = 0; i < 6; i++) {
            Check.ring(y, "loud 1");
        }
        y.undo();
        Check.due("ring() behind undo()", Check.ring(y, "loud 1"), FULL);
    }

    /** "THE TEXT, which is empty then (by a FAULT, too)", "-10 less the FAULT (the one that held holds)" */
    private static void emptyByAFault() {
        LionRing x = new LionRing();
        x.beast(0, 0, 0, 0);
        Check.due("ring() of nothing", x.ring(), -10);
        Check.due("of(0, 5): none holds yet", x.of(0, 5), 0);
        Check.due("a FAULT", Check.ring(x, "yield 5 n=0;yield 4 n=0;"), -34);
        Check.due("of(0, 5): nothing of it holds", x.of(0, 5), 0);
        Check.due("count(1)", x.count(1), 0);
        Check.due("count(4)", x.count(4), 0);
        Check.due("the first RING", Check.ring(x, "yield 3 n=0;loud 2"), 0);
        Check.due("a FAULT", Check.ring(x, "yield 5 n=0;loud 7;x"), -29);
        Check.due("count(4)", x.count(4), 0);
        Check.due("of(0, 5): the one that held holds", x.of(0, 5), 3);
        Check.due("count(1)", x.count(1), 1);
        Check.due("ring() of nothing", x.ring(), -10);
        Check.due("of(0, 5)", x.of(0, 5), 3);
        Check.due("the second RING: nothing was left", Check.ring(x, "yield 2 n=0"), 1);
        Check.due("of(0, 5)", x.of(0, 5), 2);
        // nothing of what was read ahead of a FAULT is left, whatever it was
        for (String begun : new String[] {"come 1 n=0;x", "yield 1 !n=0&", "come 1 n=0;yield 5 n=1;", "loud 7;loud 9;"}) {
            LionRing z = new LionRing();
            z.beast(0, 0, 32, 0);
            Check.due("a FAULT in " + begun, Check.ring(z, begun), -10 - begun.replace("x", "").length());
            Check.due("the RING behind it", Check.ring(z, "yield 2 n=0;come 1 n=0"), 0);
            Check.due("of(0, 5)", z.of(0, 5), 2);
            Check.due("of(0, 6)", z.of(0, 6), 1);
            z.thunder(10);
            Check.due("calm(6, 0): loud 1, so FAR 3 is to yield", z.calm(6, 0), 1);
        }
        // a FAULT at 100 is -110
        LionRing y = new LionRing();
        Check.due("the farthest FAULT", Check.ring(y, "yield 1 n=0" + times("&n=0", 22) + "&"), -110);
    }

    /** "without one there are no CLAUSES" */
    private static void withoutARing() {
        LionRing x = new LionRing();
        x.tamer(15);
        x.beast(0, 0, 14, 0);
        Check.feed(x, "yield 9 n=0");
        Check.due("of(0, 5): a TEXT is no RING yet", x.of(0, 5), 0);
        Check.due("of(0, 6)", x.of(0, 6), 0);
        Check.due("of(0, 7)", x.of(0, 7), 0);
    }

    private static void linesOf(int kind, String text, int yields, int comes) {
        LionRing x = new LionRing();
        x.beast(kind, 5, 0, 0);
        Check.due("reading " + text, Check.ring(x, text), 0);
        Check.due("YIELDS by " + text, x.of(0, 5), yields);
        Check.due("COMES by " + text + " of KIND " + kind, x.of(0, 6), comes);
    }

    /** "YIELDS of a BEAST: the n of all yield whose E holds, together (9 at most)." */
    private static void yieldsNineAtMost() {
        linesOf(0, "yield 0 n=0", 0, 0);
        linesOf(0, "yield 8 n=0", 8, 0);
        linesOf(0, "yield 9 n=0", 9, 0);
        linesOf(0, "yield 10 n=0", 9, 0);
        linesOf(0, "yield 4 n=0;yield 5 n=0", 9, 0);
        linesOf(0, "yield 5 n=0;yield 5 n=0", 9, 0);
        linesOf(0, "yield 4 n=0;yield 5 n=1", 4, 0);
        linesOf(0, "yield 99 n=0" + times(";yield 99 t=0", 6), 9, 0);
        linesOf(0, "yield 99 n=1", 0, 0);
    }

    /** "COMES: likewise by come, but no more than YIELDS less 1 (0 at least)." */
    private static void comesBelowYields() {
        linesOf(0, "come 9 n=0", 0, 0);
        linesOf(0, "yield 1 n=0;come 9 n=0", 1, 0);
        linesOf(0, "yield 2 n=0;come 1 n=0", 2, 1);
        linesOf(0, "yield 2 n=0;come 2 n=0", 2, 1);
        linesOf(0, "yield 5 n=0;come 4 n=0", 5, 4);
        linesOf(0, "yield 5 n=0;come 5 n=0", 5, 4);
        linesOf(0, "yield 5 n=0;come 3 n=1", 5, 0);
        linesOf(0, "yield 9 n=0;come 4 n=0;come 4 n=0", 9, 8);
        linesOf(0, "yield 9 n=0;come 4 n=0;come 5 n=0", 9, 8);
        // YIELDS is 9 at most ahead of that
        linesOf(0, "yield 99 n=0;come 99 n=0", 9, 8);
        // of COMING ones v more behind all that
        linesOf(2, "come 9 n=0", 0, 5);
        linesOf(2, "yield 9 n=0;come 99 n=0", 9, 13);
        linesOf(6, "yield 9 n=0;come 99 n=0", 9, 13);
        linesOf(4, "yield 9 n=0;come 99 n=0", 9, 8);
    }

    private static void loudIs(String text, int loud) {
        // alone in the row of THE TAMER, a BEAST whose COMES is 0 but for THUNDER
        for (int far = 1; far <= 5; far++) {
            LionRing x = new LionRing();
            x.beast(0, 0, 35 - far, 0);
            if (!text.isEmpty()) {
                Check.due("reading " + text, Check.ring(x, text), 0);
            }
            x.thunder(10);
            // if THUNDER is heard as far as that, it comes, a CELL in each TENTH
            Check.due(text + ", FAR " + far + ": calm(6, 0)", x.calm(6, 0), far <= loud ? 0 : 1);
        }
    }

    /** "loud: the last one's n (1 without)." */
    private static void loudOfTheLast() {
        loudIs("", 1);
        loudIs("yield 0 n=0", 1);
        loudIs("loud 0", 0);
        loudIs("loud 1", 1);
        loudIs("loud 3", 3);
        loudIs("loud 99", 99);
        loudIs("loud 4;loud 2", 2);
        loudIs("loud 2;yield 0 n=0;loud 4;come 1 n=0", 4);
        loudIs("loud 4;loud 0", 0);
        // the last RING's, not one of a RING ahead of it
        LionRing x = new LionRing();
        x.beast(0, 0, 33, 0);
        x.thunder(10);
        Check.ring(x, "loud 2");
        Check.due("calm(6, 0): loud 2", x.calm(6, 0), 0);
        Check.ring(x, "yield 0 n=0");
        Check.due("calm(6, 0): without", x.calm(6, 0), 1);
        Check.ring(x, "loud 2;x");
        Check.due("calm(6, 0): a FAULT", x.calm(6, 0), 1);
    }
}
