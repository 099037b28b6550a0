import java.math.BigInteger;
import java.util.ArrayList;
import java.util.Arrays;
import java.util.List;
import java.util.Set;
import java.util.TreeSet;

/**
 * The document once more, in the slowest and plainest form, to compare LionRing with:
 * texts are read by trying all derivations of the grammar, walks and seats by trying all of them.
 */
final class Model {
    static final int[] ABOVE = {-1, 0, 0, 0, 1, 1, 2};
    static final int[] BITS = {8, 16, 32, 64};

    static final class Beast {
        int kind, v, cell, stool, hunger;

        Beast copy() {
            Beast b = new Beast();
            b.kind = kind;
            b.v = v;
            b.cell = cell;
            b.stool = stool;
            b.hunger = hunger;
            return b;
        }
    }

    static final class State {
        List<Beast> beasts = new ArrayList<>();
        Set<Integer> foes = new TreeSet<>();
        int tamer = 35, tenth = 0, odds = 0, louder = 0;
        List<Integer> walk = new ArrayList<>(), film = new ArrayList<>();
        String ring = "";

        State copy() {
            State s = new State();
            for (Beast b : beasts) {
                s.beasts.add(b.copy());
            }
            s.foes.addAll(foes);
            s.tamer = tamer;
            s.tenth = tenth;
            s.odds = odds;
            s.louder = louder;
            s.walk.addAll(walk);
            s.film.addAll(film);
            s.ring = ring;
            return s;
        }

        boolean held(int cell) {
            return beasts.stream().anyMatch(b -> b.cell == cell);
        }

        /** The CELLS NEXT to one without a BEAST, ascending. */
        List<Integer> open(int cell) {
            List<Integer> open = new ArrayList<>();
            for (int c = 0; c < 36; c++) {
                if (round(c, cell) == 1 && !held(c)) {
                    open.add(c);
                }
            }
            return open;
        }

        int asked(int i, char letter) {
            Beast own = beasts.get(i);
            switch (letter) {
                case 'n': return i;
                case 'h': return own.hunger;
                case 'b': return (int) beasts.stream().filter(b -> b != own && far(b.cell, own.cell) <= 2).count();
                case 'c': return 4 - open(own.cell).size();
                default: return tenth % 60;
            }
        }

        int sum(int i, String word) {
            int sum = 0;
            for (String clause : ring.isEmpty() ? new String[0] : ring.split(";")) {
                String[] part = clause.split(" ");
                if (part[0].equals(word) && new Truth(this, i, part[2]).either()) {
                    sum += Integer.parseInt(part[1]);
                }
            }
            return Math.min(9, sum);
        }

        int loud() {
            int loud = 1;
            for (String clause : ring.split(";")) {
                if (clause.startsWith("loud ")) {
                    loud = Integer.parseInt(clause.substring(5));
                }
            }
            return loud;
        }

        int yields(int i) {
            return sum(i, "yield") + louder;
        }

        int comes(int i) {
            Beast b = beasts.get(i);
            int comes = Math.max(0, Math.min(sum(i, "come"), sum(i, "yield") - 1));
            return comes + (b.kind == 2 || b.kind == 6 ? b.v : 0) + louder;
        }

        /** {what it does, where it is then}. */
        int[] deed(int i) {
            Beast b = beasts.get(i);
            int far = far(b.cell, tamer);
            boolean inComes = far <= comes(i);
            boolean inYields = far <= yields(i);
            int[] stay = {0, b.cell};
            int away = b.cell;
            int near = b.cell;
            int home = b.cell;
            for (int c : open(b.cell)) {
                away = round(c, tamer) > round(away, tamer) ? c : away;
                near = round(c, tamer) < round(near, tamer) ? c : near;
                home = c != tamer && round(c, b.stool) < round(home, b.stool) ? c : home;
            }
            int[] yield = away == b.cell ? stay : new int[] {1, away};
            int[] come = near == b.cell ? stay : new int[] {2, near};
            int[] plain = inComes ? come : inYields ? yield : stay;
            int[] shy = inComes || inYields ? yield : stay;
            switch (b.kind) {
                case 0:
                case 2: return plain;
                case 1: return shy;
                case 3: return b.v != 0 && tenth % b.v == 0 ? stay : plain;
                case 4: return (inComes || inYields) && away == b.cell ? come : shy;
                case 5: return inComes || inYields ? shy
                        : far(b.cell, b.stool) <= b.v && home != b.cell ? new int[] {3, home} : stay;
                default: return inComes && near == tamer ? stay : plain;
            }
        }

        void tenth() {
            for (int i = 0; i < beasts.size(); i++) {
                beasts.get(i).cell = deed(i)[1];
            }
            tenth++;
        }

        boolean told(int cell) {
            if (cell == tamer || open(tamer).contains(cell)) {
                tamer = cell;
                return true;
            }
            return false;
        }

        boolean seated() {
            return beasts.stream().allMatch(b -> b.cell == b.stool);
        }
    }

    /** Reads E and tells whether it holds. */
    static final class Truth {
        final State state;
        final int beast;
        final String e;
        int at = 0;

        Truth(State state, int beast, String e) {
            this.state = state;
            this.beast = beast;
            this.e = e;
        }

        boolean either() {
            boolean holds = both();
            if (at < e.length() && e.charAt(at) == '|') {
                at++;
                boolean rest = either();
                return holds || rest;
            }
            return holds;
        }

        boolean both() {
            boolean holds = one();
            if (at < e.length() && e.charAt(at) == '&') {
                at++;
                boolean rest = both();
                return holds && rest;
            }
            return holds;
        }

        boolean one() {
            char c = e.charAt(at++);
            if (c == '!') {
                return !one();
            }
            if (c == '(') {
                boolean holds = either();
                at++;
                return holds;
            }
            char sign = e.charAt(at++);
            int from = at;
            while (at < e.length() && Character.isDigit(e.charAt(at))) {
                at++;
            }
            int n = Integer.parseInt(e.substring(from, at));
            int asked = state.asked(beast, c);
            return sign == '<' ? asked < n : sign == '>' ? asked > n : asked == n;
        }
    }

    State now = new State();
    State image = null;
    StringBuilder text = new StringBuilder();
    int rings = 0;
    List<Integer> trace = new ArrayList<>();
    int[] sort = {-1, -1, -1, -1, -1, -1};
    long[][] rows = new long[6][0];

    static int far(int a, int b) {
        return Math.max(Math.abs(a / 6 - b / 6), Math.abs(a % 6 - b % 6));
    }

    static int round(int a, int b) {
        return Math.abs(a / 6 - b / 6) + Math.abs(a % 6 - b % 6);
    }

    static boolean out(int n, int least, int most) {
        return n < least || n > most;
    }

    boolean no(int beast) {
        return out(beast, 0, now.beasts.size() - 1);
    }

    // ---- the grammar: what may still come, as rows of signs; upper case signs with a depth are to be derived

    static void derive(String pending, Set<String> into) {
        if (pending.isEmpty()) {
            into.add(pending);
            return;
        }
        char sign = pending.charAt(0);
        if ("RETFN".indexOf(sign) < 0) {
            into.add(pending);
            return;
        }
        int d = pending.charAt(1) - '0';
        String rest = pending.substring(2);
        List<String> ways = new ArrayList<>();
        if (sign == 'R') {
            for (String clause : new String[] {"yield N0 E0", "come N0 E0", "loud N0"}) {
                ways.add(clause);
                if (d > 1) {
                    ways.add(clause + ";R" + (d - 1));
                }
            }
        } else if (sign == 'E') {
            ways.add("T" + d);
            ways.add("T" + d + "|E" + d);
        } else if (sign == 'T') {
            ways.add("F" + d);
            ways.add("F" + d + "&T" + d);
        } else if (sign == 'F') {
            if (d < 4) {
                ways.add("!F" + (d + 1));
                ways.add("(E" + (d + 1) + ")");
            }
            ways.add("L?N0");
        } else {
            ways.add("D");
            ways.add("DD");
        }
        for (String way : ways) {
            derive(way + rest, into);
        }
    }

    static boolean fits(char pending, char sign) {
        switch (pending) {
            case 'L': return "nhbct".indexOf(sign) >= 0;
            case '?': return "<=>".indexOf(sign) >= 0;
            case 'D': return sign >= '0' && sign <= '9';
            default: return pending == sign;
        }
    }

    static int fault(String text) {
        Set<String> states = new TreeSet<>();
        derive("R8", states);
        for (int i = 0; i < text.length(); i++) {
            Set<String> next = new TreeSet<>();
            for (String s : states) {
                if (!s.isEmpty() && fits(s.charAt(0), text.charAt(i))) {
                    derive(s.substring(1), next);
                }
            }
            if (next.isEmpty()) {
                return i;
            }
            states = next;
        }
        return states.contains("") ? -1 : text.length();
    }

    // ---- the promises

    int beast(int kind, int v, int cell, int hunger) {
        if (out(kind, 0, 6) || out(cell, 0, 35)) {
            return -1;
        }
        if (out(v, 0, 9) || out(hunger, 0, 9)) {
            return -2;
        }
        if (now.held(cell) || now.tamer == cell || now.beasts.stream().anyMatch(b -> b.stool == cell)) {
            return -3;
        }
        if (now.beasts.size() == 6) {
            return -4;
        }
        Beast b = new Beast();
        b.kind = kind;
        b.v = v;
        b.cell = cell;
        b.stool = cell;
        b.hunger = hunger;
        now.beasts.add(b);
        return now.beasts.size() - 1;
    }

    int of(int beast, int what) {
        if (no(beast) || out(what, 0, 7)) {
            return -1;
        }
        Beast b = now.beasts.get(beast);
        int[] all = {b.kind, b.v, b.cell, b.stool, b.hunger, now.yields(beast), now.comes(beast), now.deed(beast)[0]};
        return all[what];
    }

    int set(int beast, int what, int n) {
        if (no(beast) || out(what, 0, 1)) {
            return -1;
        }
        if (out(n, 0, what == 0 ? 35 : 9)) {
            return -2;
        }
        Beast b = now.beasts.get(beast);
        if (what == 0) {
            if (now.beasts.stream().anyMatch(o -> o != b && o.stool == n)) {
                return -3;
            }
            int old = b.stool;
            b.stool = n;
            return old;
        }
        int old = b.hunger;
        b.hunger = n;
        return old;
    }

    int enemies(int a, int b, boolean are) {
        if (no(a) || no(b)) {
            return -1;
        }
        if (a == b) {
            return -2;
        }
        int pair = Math.min(a, b) * 10 + Math.max(a, b);
        boolean were = are ? !now.foes.add(pair) : now.foes.remove(pair);
        return were ? 1 : 0;
    }

    int tamer(int cell) {
        if (out(cell, 0, 35)) {
            return -1;
        }
        if (now.held(cell)) {
            return -3;
        }
        int old = now.tamer;
        now.tamer = cell;
        return old;
    }

    int feed(int bytes, int n) {
        if (out(n, 0, 4)) {
            return -2;
        }
        if (text.length() + n > 100) {
            return -4;
        }
        for (int i = n; i > 0; i--) {
            text.append((char) (bytes >> 8 * (i - 1) & 0xff));
        }
        return text.length();
    }

    int ring() {
        if (rings == 6) {
            return -4;
        }
        String told = text.toString();
        text.setLength(0);
        int fault = fault(told);
        if (fault >= 0) {
            return -10 - fault;
        }
        now.ring = told;
        return rings++;
    }

    int go(int n) {
        if (out(n, 1, 60)) {
            return -2;
        }
        for (int i = 0; i < n; i++) {
            now.tenth();
            for (int k = 0; k < now.beasts.size(); k++) {
                if (now.beasts.get(k).cell == now.tamer) {
                    return k;
                }
            }
        }
        return -5;
    }

    long safe() {
        long bits = 0;
        for (int c = 0; c < 36; c++) {
            State s = now.copy();
            s.tamer = c;
            boolean safe = !s.held(c);
            for (int i = 0; i < s.beasts.size(); i++) {
                safe &= s.deed(i)[0] != 2;
            }
            bits |= safe ? 1L << c : 0;
        }
        return bits;
    }

    int from(int beast) {
        if (no(beast)) {
            return -1;
        }
        for (int c = 0; c < 36; c++) {
            State s = now.copy();
            s.tamer = c;
            String leave = "";
            for (int i = 0; i < s.beasts.size(); i++) {
                leave += s.deed(i)[1] != s.beasts.get(i).cell ? i : "";
            }
            if (!s.held(c) && leave.equals("" + beast)) {
                return c;
            }
        }
        return -5;
    }

    int walk(int cell) {
        return row(now.walk, cell, 12);
    }

    int film(int cell) {
        return row(now.film, cell, 10);
    }

    private static int row(List<Integer> row, int cell, int most) {
        if (out(cell, -1, 35)) {
            return -1;
        }
        if (cell == -1) {
            row.clear();
            return 0;
        }
        if (row.size() == most) {
            return -4;
        }
        row.add(cell);
        return row.size();
    }

    int gone(int what) {
        if (no(what) && out(what, 10, 12)) {
            return -1;
        }
        State s = now.copy();
        int caught = -5;
        int stayed = -5;
        for (int i = s.walk.size() - 1, k = 0; k <= i; k++) {
            if (!s.told(s.walk.get(k)) && stayed < 0) {
                stayed = k;
            }
            s.tenth();
            if (s.held(s.tamer) && caught < 0) {
                caught = k;
            }
        }
        return what < 6 ? s.beasts.get(what).cell : what == 10 ? caught : what == 11 ? stayed : s.tamer;
    }

    /** A WALK of just so many CELLS from a state on, the first as a row; null if there is none. */
    private static List<Integer> walkOf(State s, int beast, int tenths) {
        if (tenths == 0) {
            boolean there = s.beasts.get(beast).cell == s.beasts.get(beast).stool;
            return there ? new ArrayList<>() : null;
        }
        for (int c = 0; c < 36; c++) {
            State next = s.copy();
            if (!next.told(c)) {
                continue;
            }
            next.tenth();
            List<Integer> rest = next.held(next.tamer) ? null : walkOf(next, beast, tenths - 1);
            if (rest != null) {
                rest.add(0, c);
                return rest;
            }
        }
        return null;
    }

    int shortest(int beast, int what) {
        if (no(beast) || out(what, -1, 4)) {
            return -1;
        }
        for (int n = 0; n <= 5; n++) {
            List<Integer> found = walkOf(now, beast, n);
            if (found != null) {
                return what == -1 ? n : what < n ? found.get(what) : -5;
            }
        }
        return -5;
    }

    int seats(int what) {
        if (what != -1 && no(what)) {
            return -1001;
        }
        int n = now.beasts.size();
        int least = Integer.MAX_VALUE;
        int[] best = null;
        int rows = (int) Math.pow(n, n);
        for (int code = 0; code < rows; code++) {
            int[] row = new int[n];
            int used = 0;
            int sum = 0;
            for (int i = 0, rest = code; i < n; i++, rest /= n) {
                used |= 1 << rest % n;
                row[i] = now.beasts.get(rest % n).stool;
                sum += round(row[i], now.beasts.get(i).cell);
            }
            boolean good = Integer.bitCount(used) == n;
            for (int pair : now.foes) {
                good = good && round(row[pair / 10], row[pair % 10]) != 1;
            }
            if (good && (sum < least || sum == least && Arrays.compare(row, best) < 0)) {
                least = sum;
                best = row;
            }
        }
        return best == null ? -5 : what == -1 ? least : best[what];
    }

    int sit() {
        State s = now.copy();
        for (int i = 0; i <= 60; i++) {
            if (s.seated()) {
                return i;
            }
            s.tenth();
        }
        return -5;
    }

    int line(int beast) {
        if (no(beast)) {
            return -1;
        }
        State s = now.copy();
        int goal = s.beasts.get(beast).cell;
        s.tamer = 0;
        for (int c : new int[] {5, 30, 35}) {
            s.tamer = far(c, goal) > far(s.tamer, goal) ? c : s.tamer;
        }
        while (s.tamer != goal) {
            if (s.deed(beast)[1] != goal) {
                return far(s.tamer, goal);
            }
            int next = 0;
            while (round(next, s.tamer) != 1 || round(next, goal) >= round(s.tamer, goal)) {
                next++;
            }
            s.tamer = next;
        }
        return -5;
    }

    int thunder(int n) {
        if (out(n, 0, 10)) {
            return -2;
        }
        int old = now.odds;
        now.odds = n;
        return old;
    }

    private static long calmWays(State s, int n) {
        if (n == 0) {
            return 1;
        }
        long ways = 0;
        for (int loud = 0; loud <= 1; loud++) {
            int odds = loud == 1 ? s.odds : 10 - s.odds;
            State next = s.copy();
            next.louder = loud == 1 ? s.loud() : 0;
            next.tenth();
            if (odds > 0 && !next.held(next.tamer)) {
                ways += odds * calmWays(next, n - 1);
            }
        }
        return ways;
    }

    long calm(int n, int part) {
        if (out(n, 1, 6) || out(part, 0, 1)) {
            return Long.MIN_VALUE;
        }
        BigInteger above = BigInteger.valueOf(calmWays(now, n));
        BigInteger below = BigInteger.TEN.pow(n);
        BigInteger shared = above.gcd(below);
        return (part == 0 ? above : below).divide(shared).longValue();
    }

    int kinds(int beast) {
        if (no(beast)) {
            return -1;
        }
        int bits = 0;
        for (int k = 0; k < 7; k++) {
            State s = now.copy();
            s.beasts.get(beast).kind = k;
            List<Integer> went = new ArrayList<>();
            while (went.size() < s.film.size()) {
                s.tenth();
                went.add(s.beasts.get(beast).cell);
            }
            bits |= went.equals(s.film) ? 1 << k : 0;
        }
        return bits;
    }

    int judge(int tape, int i, int n) {
        if (out(tape, 0, 5)) {
            return -1;
        }
        if (out(n, 0, 60)) {
            return -2;
        }
        if (sort[tape] > 0) {
            return -12;
        }
        State s = now.copy();
        for (int k = 0; k < n; k++) {
            s.tenth();
        }
        for (int b = 0; b < s.beasts.size(); b++) {
            long place = (long) i + b;
            if (i < 0 || sort[tape] < 0 || place >= rows[tape].length) {
                return 100 + b;
            }
            if (rows[tape][(int) place] != s.beasts.get(b).cell) {
                return b;
            }
        }
        return -5;
    }

    int image() {
        image = now.copy();
        return image.beasts.size();
    }

    int undo() {
        if (image == null) {
            return -3;
        }
        now = image.copy();
        return now.beasts.size();
    }

    // ---- acts, with Java's own classes

    class Move {
        int i;
        int v;

        int yields(int x) {
            trace.add(10);
            return x + i;
        }

        int comes(int x) {
            trace.add(11);
            return yields(x) - v;
        }

        int tells(int x) {
            trace.add(12);
            return comes(x) * 2;
        }
    }

    class Yielding extends Move {
        int comes(int x) {
            trace.add(20);
            return super.comes(x) ^ 6;
        }
    }

    class Coming extends Move {
        int yields(int x) {
            trace.add(30);
            return super.yields(x * 3);
        }
    }

    class Refusing extends Move {
        int tells(int x) {
            trace.add(40);
            return super.tells(x) + comes(1);
        }
    }

    class Cornered extends Yielding {
        int yields(int x) {
            trace.add(50);
            return -super.yields(x);
        }

        int comes(int x) {
            trace.add(51);
            return super.comes(x + 1);
        }
    }

    class Taught extends Yielding {
        int tells(int x) {
            trace.add(60);
            return super.tells(x - i);
        }
    }

    class Feigned extends Coming {
        int comes(int x) {
            trace.add(70);
            return super.comes(x) + super.yields(2);
        }

        int yields(int x) {
            trace.add(71);
            return super.yields(x) ^ v;
        }
    }

    int act(int beast, int act, int x) {
        trace.clear();
        if (no(beast) || out(act, 0, 2)) {
            return 0;
        }
        Move[] all = {new Move(), new Yielding(), new Coming(), new Refusing(), new Cornered(), new Taught(),
            new Feigned()};
        Move m = all[now.beasts.get(beast).kind];
        m.i = beast;
        m.v = now.beasts.get(beast).v;
        return act == 0 ? m.yields(x) : act == 1 ? m.comes(x) : m.tells(x);
    }

    int trace(int i) {
        return out(i, 0, Math.min(20, trace.size()) - 1) ? -1 : trace.get(i);
    }

    int taken(int beast, int k) {
        if (out(k, 0, 6)) {
            return -2;
        }
        if (no(beast)) {
            return -11;
        }
        int kind = now.beasts.get(beast).kind;
        for (int up = kind; up >= 0; up = ABOVE[up]) {
            if (up == k) {
                return kind;
            }
        }
        return -12;
    }

    int count(int what) {
        if (out(what, 0, 7)) {
            return -2;
        }
        int[] all = {now.beasts.size(), rings, now.walk.size(), now.film.size(), text.length(), now.tenth,
            trace.size(), now.tamer};
        return all[what];
    }

    int tape(int tape, int itsSort, int n) {
        if (out(tape, 0, 5)) {
            return -1;
        }
        if (out(itsSort, -1, 4) || itsSort >= 0 && n > 60) {
            return -2;
        }
        if (itsSort >= 0 && n < 0) {
            return -14;
        }
        sort[tape] = itsSort;
        rows[tape] = new long[itsSort < 0 ? 0 : n];
        return 1;
    }

    int item(int tape, int i, long v) {
        if (out(tape, 0, 5)) {
            return -1;
        }
        if (sort[tape] < 0) {
            return -11;
        }
        if (out(i, 0, rows[tape].length - 1)) {
            return -13;
        }
        int shift = sort[tape] == 4 ? 0 : 64 - BITS[sort[tape]];
        rows[tape][i] = sort[tape] == 4 ? (v == 0 ? 0 : 1) : v << shift >> shift;
        return 1;
    }

    long read(int tape, int i) {
        if (out(tape, 0, 5) || sort[tape] < 0 || out(i, 0, rows[tape].length - 1)) {
            return Long.MIN_VALUE;
        }
        return rows[tape][i];
    }

    int shift(int tape, int i, int other, int j, int n) {
        if (out(tape, 0, 5) || out(other, 0, 5)) {
            return -1;
        }
        if (sort[tape] < 0 || sort[other] < 0) {
            return -11;
        }
        if (sort[tape] != sort[other]) {
            return -12;
        }
        if (n < 0 || i < 0 || j < 0 || (long) i + n > rows[tape].length || (long) j + n > rows[other].length) {
            return -13;
        }
        long[] part = Arrays.copyOfRange(rows[tape], i, i + n);
        for (int k = 0; k < n; k++) {
            rows[other][j + k] = part[k];
        }
        return n;
    }
}
