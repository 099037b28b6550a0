import java.util.Random;

/** Runs of chosen-by-seed calls, each answer compared with the model's. */
public final class ModelTest {
    private static final String[] TESTS = {"n", "h", "b", "c", "t"};

    private final Random dice;
    private final LionRing x = new LionRing();
    private final Model m = new Model();
    private final String run;
    private int calls = 0;

    private ModelTest(int seed) {
        dice = new Random(seed);
        run = "run " + seed + " call ";
    }

    private int below(int n) {
        return dice.nextInt(n);
    }

    /** Mostly one of 0 .. most, now and then another number. */
    private int about(int most) {
        if (below(25) == 0) {
            int[] odd = {-1, -2, most + 1, most + 2, Integer.MAX_VALUE, Integer.MIN_VALUE};
            return odd[below(odd.length)];
        }
        return below(most + 1);
    }

    private void due(String call, long got, long want) {
        Check.due(run + calls + ": " + call, got, want);
        calls++;
    }

    private String either(int within) {
        StringBuilder e = new StringBuilder(one(within));
        while (below(3) == 0) {
            e.append(below(2) == 0 ? '|' : '&').append(one(within));
        }
        return e.toString();
    }

    private String one(int within) {
        int way = within >= 5 ? 9 : below(10);
        if (way < 2) {
            return "!" + one(within + 1);
        }
        if (way < 4) {
            return "(" + either(within + 1) + ")";
        }
        int[] most = {6, 10, 6, 5, below(2) == 0 ? 60 : 6};
        int letter = below(5);
        return TESTS[letter] + "<=>".charAt(below(3)) + below(most[letter]);
    }

    private String clauses() {
        StringBuilder text = new StringBuilder();
        for (int left = 1 + below(below(4) == 0 ? 9 : 5); left > 0; left--) {
            int n = below(8) == 0 ? below(100) : 1 + below(3);
            int word = below(7);
            String clause = word == 0 ? "loud " + n : (word < 4 ? "yield " : "come ") + n + " " + either(0);
            if (text.length() + clause.length() < 100) {
                text.append(text.length() == 0 ? "" : ";").append(clause);
            }
        }
        if (below(6) == 0 && text.length() > 0) {
            int place = below(text.length());
            switch (below(3)) {
                case 0: text.deleteCharAt(place); break;
                case 1: text.setCharAt(place, "(!)&|;<=> 1ny".charAt(below(13))); break;
                default: text.setLength(place); break;
            }
        }
        return text.toString();
    }

    private void feed(String text) {
        int i = 0;
        while (i < text.length()) {
            int n = Math.min(text.length() - i, 1 + below(4));
            int bytes = below(256) << 24;
            for (int k = 0; k < n; k++) {
                bytes = bytes << 8 | text.charAt(i + k);
            }
            due("feed", x.feed(bytes, n), m.feed(bytes, n));
            i += n;
        }
    }

    private void ring() {
        feed(clauses());
        String text = m.text.toString();
        due("ring " + text, x.ring(), m.ring());
    }

    private void change() {
        int b = about(5);
        int c = about(35);
        int n = about(9);
        switch (below(11)) {
            case 0: {
                int kind = about(6);
                int hunger = about(9);
                due("beast", x.beast(kind, n, c, hunger), m.beast(kind, n, c, hunger));
                break;
            }
            case 1: due("set stool", x.set(b, 0, c), m.set(b, 0, c)); break;
            case 2: {
                int near = m.now.beasts.isEmpty() || m.no(b) ? 0 : m.now.beasts.get(b).cell + below(15) - 7;
                due("set near", x.set(b, 0, near), m.set(b, 0, near));
                break;
            }
            case 3: due("set hunger", x.set(b, 1, n), m.set(b, 1, n)); break;
            case 4: {
                int what = about(1);
                due("set what", x.set(b, what, n), m.set(b, what, n));
                break;
            }
            case 5: {
                int other = about(5);
                boolean are = below(3) > 0;
                due("enemies", x.enemies(b, other, are), m.enemies(b, other, are));
                break;
            }
            case 6: due("tamer", x.tamer(c), m.tamer(c)); break;
            case 7: due("walk", x.walk(c), m.walk(c)); break;
            case 8: {
                int step = m.now.tamer + new int[] {-6, -1, 0, 1, 6}[below(5)];
                due("walk near", x.walk(step), m.walk(step));
                break;
            }
            case 9: {
                int seen = m.no(b) ? c : m.now.beasts.get(b).cell;
                due("film", x.film(seen), m.film(seen));
                break;
            }
            default: due("thunder", x.thunder(n), m.thunder(n)); break;
        }
    }

    private void ask() {
        int b = about(5);
        switch (below(13)) {
            case 0: due("safe", x.safe(), m.safe()); break;
            case 1: due("from " + b, x.from(b), m.from(b)); break;
            case 2: due("gone " + b, x.gone(b), m.gone(b)); break;
            case 3: {
                int what = 9 + below(5);
                due("gone " + what, x.gone(what), m.gone(what));
                break;
            }
            case 4: due("seats", x.seats(b), m.seats(b)); break;
            case 5: due("seats -1", x.seats(-1), m.seats(-1)); break;
            case 6: due("sit", x.sit(), m.sit()); break;
            case 7: due("line " + b, x.line(b), m.line(b)); break;
            case 8: {
                int n = about(3);
                int part = about(1);
                due("calm " + n, x.calm(n, part), m.calm(n, part));
                break;
            }
            case 9: due("kinds " + b, x.kinds(b), m.kinds(b)); break;
            case 10: {
                int k = about(6);
                due("taken", x.taken(b, k), m.taken(b, k));
                break;
            }
            case 11: {
                int what = about(7);
                due("count " + what, x.count(what), m.count(what));
                break;
            }
            default: {
                int what = about(7);
                due("of " + b + " " + what, x.of(b, what), m.of(b, what));
                break;
            }
        }
    }

    private void shortest() {
        int b = about(5);
        for (int what = -1; what <= 5; what++) {
            due("shortest " + b + " " + what, x.shortest(b, what), m.shortest(b, what));
            if (what == -1 && m.shortest(b, what) < 0) {
                return;
            }
        }
    }

    /** A FILM of a BEAST as one of some KIND would go, now and then with a CELL that is off. */
    private void film() {
        int b = below(6);
        due("film none", x.film(-1), m.film(-1));
        Model.State s = m.now.copy();
        if (b < s.beasts.size()) {
            s.beasts.get(b).kind = below(7);
            for (int i = 1 + below(5); i > 0; i--) {
                s.tenth();
                int c = below(20) == 0 ? below(36) : s.beasts.get(b).cell;
                due("film", x.film(c), m.film(c));
            }
        }
        due("kinds " + b, x.kinds(b), m.kinds(b));
    }

    private void calm() {
        int odds = 1 + below(9);
        due("thunder", x.thunder(odds), m.thunder(odds));
        int n = 1 + below(4);
        due("calm above " + n, x.calm(n, 0), m.calm(n, 0));
        due("calm below " + n, x.calm(n, 1), m.calm(n, 1));
    }

    private void act() {
        int b = about(5);
        int act = about(2);
        int n = below(2) == 0 ? dice.nextInt() : below(20);
        due("act", x.act(b, act, n), m.act(b, act, n));
        for (int i = -1; i <= m.trace.size(); i++) {
            due("trace " + i, x.trace(i), m.trace(i));
        }
        due("count 6", x.count(6), m.count(6));
    }

    private void tapes() {
        int t = about(5);
        int i = about(6);
        int sort = below(3) > 0 ? 0 : about(4);
        switch (below(6)) {
            case 0: {
                int n = below(9) == 0 ? about(60) : about(7);
                due("tape", x.tape(t, sort, n), m.tape(t, sort, n));
                break;
            }
            case 1: {
                long v = below(2) == 0 ? dice.nextLong() : below(36);
                due("item", x.item(t, i, v), m.item(t, i, v));
                break;
            }
            case 2: due("read", x.read(t, i), m.read(t, i)); break;
            case 3: {
                int other = below(2) == 0 ? t : about(5);
                int j = about(4);
                int n = about(4);
                due("shift", x.shift(t, i, other, j, n), m.shift(t, i, other, j, n));
                break;
            }
            case 4: {
                int n = about(60);
                due("judge", x.judge(t, i, n), m.judge(t, i, n));
                break;
            }
            default: judgeWell(); break;
        }
    }

    /** A row that tells most BEASTS' CELLS as they are. */
    private void judgeWell() {
        int size = below(8);
        due("tape", x.tape(0, 0, size), m.tape(0, 0, size));
        for (int i = 0; i < size; i++) {
            int c = m.no(i) || below(12) == 0 ? below(36) : m.now.beasts.get(i).cell;
            due("item", x.item(0, i, c), m.item(0, i, c));
        }
        int n = below(4) == 0 ? 1 : 0;
        due("judge well", x.judge(0, 0, n), m.judge(0, 0, n));
    }

    private void everything() {
        for (int b = 0; b < 6; b++) {
            for (int what = 0; what < 8; what++) {
                due("of " + b + " " + what, x.of(b, what), m.of(b, what));
            }
        }
        for (int what = 0; what < 8; what++) {
            due("count " + what, x.count(what), m.count(what));
        }
    }

    private void beasts() {
        int c = below(36);
        due("tamer", x.tamer(c), m.tamer(c));
        for (int i = below(7); i > 0; i--) {
            int kind = below(7);
            int v = below(10);
            int cell = below(36);
            int hunger = below(10);
            due("beast", x.beast(kind, v, cell, hunger), m.beast(kind, v, cell, hunger));
        }
    }

    private void play(boolean walks) {
        beasts();
        ring();
        for (int i = 0; i < 60; i++) {
            int way = below(43);
            if (way < 14) {
                change();
            } else if (way < 28) {
                ask();
            } else if (way < 30) {
                act();
            } else if (way < 34) {
                tapes();
            } else if (way < 36) {
                int n = below(3) == 0 ? about(60) : about(4);
                due("go " + n, x.go(n), m.go(n));
            } else if (way == 36) {
                ring();
            } else if (way == 37) {
                due("image", x.image(), m.image());
            } else if (way == 38) {
                due("undo", x.undo(), m.undo());
            } else if (way == 39) {
                film();
            } else if (way == 40) {
                calm();
            } else if (walks) {
                shortest();
            }
        }
        everything();
    }

    /** Texts alone, many more of them than a run could read. */
    private static void texts() {
        ModelTest maker = new ModelTest(-1);
        for (int i = 0; i < 3000; i++) {
            String text = maker.clauses();
            LionRing ring = new LionRing();
            int fault = Model.fault(text);
            Check.due("ring " + text, Check.ring(ring, text), fault < 0 ? 0 : -10 - fault);
        }
    }

    public static void main(String[] args) {
        texts();
        for (int seed = 0; seed < 600; seed++) {
            new ModelTest(seed).play(seed % 6 == 0);
        }
        Check.end();
    }
}
