/**
 * Lions on boxes: a ring of cells with stools, a tamer, and beasts that yield or come by lines read from texts.
 * The words in capitals are those of the document (../shared/DOC.md).
 */
public final class LionRing {
    public static final int NONE = -1, BAD = -2, STATE = -3, FULL = -4;
    public static final long NO = Long.MIN_VALUE;

    /** The document's -5: none, never. */
    private static final int NEVER = -5;
    private static final int FAULTY = -10, NOTHING = -11, CAST = -12, PLACE = -13, SIZE = -14;
    private static final int NO_SEAT = -1001;

    private static final int SIDE = 6, CELLS = 36, TAMERS_CELL = 35;
    private static final int BEASTS = 6, RINGS = 6, TAPES = 6;
    private static final int TEXT_ROOM = 100, WALK_ROOM = 12, FILM_ROOM = 10, TAPE_ROOM = 60;
    private static final int MOST_TENTHS = 60, MOST_CALM = 6, MOST_CLAUSES = 8, MOST_WITHIN = 4;
    private static final int DIGIT = 9, ODDS = 10, MOST_YIELDS = 9, NEAR = 2;

    private static final int MOVE = 0, YIELDING = 1, COMING = 2, REFUSING = 3, CORNERED = 4, TAUGHT = 5, FEIGNED = 6;
    private static final int KINDS = 7;
    private static final int STAYS = 0, YIELDS = 1, COMES = 2, STOOLWARD = 3;
    private static final int TO_YIELD = 0, TO_COME = 1, TO_TELL = 2;
    private static final int BYTES = 0, SHORTS = 1, INTS = 2, BOOLEANS = 4;

    private final Scene now = new Scene();
    private final Scene image = new Scene();
    /** Where all that is asked goes on from how all is. */
    private final Scene trial = new Scene();
    private boolean hasImage = false;
    private final Reader reader = new Reader();
    private final Ring[] rings = new Ring[RINGS];
    private int ringCount = 0;
    private final Hunt hunt = new Hunt();
    private final Seating seating = new Seating();
    private final Acts acts = new Acts();
    private final Tape[] tapes = new Tape[TAPES];

    public LionRing() {
        for (int i = 0; i < RINGS && i < rings.length; i++) {
            rings[i] = new Ring();
        }
        for (int i = 0; i < TAPES && i < tapes.length; i++) {
            tapes[i] = new Tape();
        }
    }

    // ---- beasts, rings

    public int beast(int kind, int v, int cell, int hunger) {
        if (!isKind(kind) || !isCell(cell)) {
            return NONE;
        }
        if (!isWithin(v, 0, DIGIT) || !isWithin(hunger, 0, DIGIT)) {
            return BAD;
        }
        if (now.holdsBeast(cell) || now.tamer == cell || now.isStool(cell)) {
            return STATE;
        }
        if (now.size() >= BEASTS) {
            return FULL;
        }
        return now.addBeast(kind, v, cell, hunger);
    }

    public int of(int beast, int what) {
        if (!now.isBeast(beast)) {
            return NONE;
        }
        switch (what) {
            case 0: return now.kind.at(beast);
            case 1: return now.v.at(beast);
            case 2: return now.cell.at(beast);
            case 3: return now.stool.at(beast);
            case 4: return now.hunger.at(beast);
            case 5: return lookedAt(beast).yields;
            case 6: return lookedAt(beast).comes;
            case 7: return now.deedOf(beast);
            default: return NONE;
        }
    }

    private Look lookedAt(int beast) {
        now.lookAt(beast);
        return now.look;
    }

    public int set(int beast, int what, int n) {
        if (!now.isBeast(beast) || !isWithin(what, 0, 1)) {
            return NONE;
        }
        if (!isWithin(n, 0, what == 0 ? CELLS - 1 : DIGIT)) {
            return BAD;
        }
        Row row = what == 0 ? now.stool : now.hunger;
        int old = row.at(beast);
        if (what == 0 && n != old && now.isStool(n)) {
            return STATE;
        }
        row.put(beast, n);
        return old;
    }

    public int enemies(int a, int b, boolean are) {
        if (!now.isBeast(a) || !now.isBeast(b)) {
            return NONE;
        }
        if (a == b) {
            return BAD;
        }
        int were = now.areEnemies(a, b) ? 1 : 0;
        now.setEnemy(a, b, are);
        now.setEnemy(b, a, are);
        return were;
    }

    public int tamer(int cell) {
        if (!isCell(cell)) {
            return NONE;
        }
        if (now.holdsBeast(cell)) {
            return STATE;
        }
        int old = now.tamer;
        now.tamer = cell;
        return old;
    }

    public int feed(int bytes, int n) {
        if (!isWithin(n, 0, 4)) {
            return BAD;
        }
        if (reader.text.size + n > TEXT_ROOM) {
            return FULL;
        }
        for (int left = n - 1; left >= 0; left--) {
            reader.text.add((bytes >>> (8 * left)) & 255);
        }
        return reader.text.size;
    }

    public int ring() {
        if (ringCount < 0 || ringCount >= RINGS || ringCount >= rings.length) {
            return FULL;
        }
        Ring newest = rings[ringCount];
        if (newest == null) {
            return FULL;
        }
        int fault = reader.faultOfText();
        reader.text.clear();
        if (fault != NONE) {
            return FAULTY - fault;
        }
        newest.copyFrom(reader.draft);
        now.ring = newest;
        ringCount++;
        return ringCount - 1;
    }

    // ---- tenths

    public int go(int n) {
        if (!isWithin(n, 1, MOST_TENTHS)) {
            return BAD;
        }
        for (int i = 0; i < n; i++) {
            now.passTenth();
            if (now.isCaught()) {
                return now.cell.placeOf(now.tamer);
            }
        }
        return NEVER;
    }

    public long safe() {
        long cells = 0;
        trial.copyFrom(now);
        for (int c = 0; c < CELLS; c++) {
            trial.tamer = c;
            if (!now.holdsBeast(c) && !trial.anyComes()) {
                cells |= 1L << c;
            }
        }
        return cells;
    }

    public int from(int beast) {
        if (!now.isBeast(beast)) {
            return NONE;
        }
        trial.copyFrom(now);
        for (int c = 0; c < CELLS; c++) {
            trial.tamer = c;
            if (!now.holdsBeast(c) && trial.leavesAlone(beast)) {
                return c;
            }
        }
        return NEVER;
    }

    public int walk(int cell) {
        return comeTo(now.walk, cell, WALK_ROOM);
    }

    /** The WALK and the FILM are told alike. */
    private static int comeTo(Row row, int cell, int room) {
        if (cell == -1) {
            row.clear();
            return 0;
        }
        if (!isCell(cell)) {
            return NONE;
        }
        if (row.size >= room) {
            return FULL;
        }
        row.add(cell);
        return row.size;
    }

    public int gone(int what) {
        if (!now.isBeast(what) && !isWithin(what, 10, 12)) {
            return NONE;
        }
        int caught = NEVER;
        int stayed = NEVER;
        trial.copyFrom(now);
        for (int i = 0; i < now.walk.size; i++) {
            boolean went = trial.goTo(now.walk.at(i));
            if (!went && stayed == NEVER) {
                stayed = i;
            }
            trial.passTenth();
            if (caught == NEVER && trial.isCaught()) {
                caught = i;
            }
        }
        switch (what) {
            case 10: return caught;
            case 11: return stayed;
            case 12: return trial.tamer;
            default: return trial.cell.at(what);
        }
    }

    public int shortest(int beast, int what) {
        if (!now.isBeast(beast) || !isWithin(what, -1, Hunt.MOST - 1)) {
            return NONE;
        }
        trial.copyFrom(now);
        hunt.search(trial, beast);
        return what == -1 ? hunt.tenths : hunt.cellOf(what);
    }

    public int seats(int what) {
        if (what != -1 && !now.isBeast(what)) {
            return NO_SEAT;
        }
        seating.search(now);
        if (seating.sum == NEVER) {
            return NEVER;
        }
        return what == -1 ? seating.sum : seating.best.at(what);
    }

    public int sit() {
        trial.copyFrom(now);
        for (int i = 0; i <= MOST_TENTHS; i++) {
            if (trial.allSit()) {
                return i;
            }
            trial.passTenth();
        }
        return NEVER;
    }

    public int line(int beast) {
        if (!now.isBeast(beast)) {
            return NONE;
        }
        trial.copyFrom(now);
        int goal = now.cell.at(beast);
        trial.tamer = farthestCorner(goal);
        int steps = roundOf(trial.tamer, goal);
        for (int i = 0; i < steps; i++) {
            if (trial.deedOf(beast) != STAYS) {
                return farOf(trial.tamer, goal);
            }
            trial.tamer = stepToward(trial.tamer, goal);
        }
        return NEVER;
    }

    // ---- thunder, films

    public int thunder(int n) {
        if (!isWithin(n, 0, ODDS)) {
            return BAD;
        }
        int old = now.odds;
        now.odds = n;
        return old;
    }

    public long calm(int n, int part) {
        if (!isWithin(n, 1, MOST_CALM) || !isWithin(part, 0, 1)) {
            return NO;
        }
        long above = 0;
        for (int thunders = 0; thunders < 1 << n; thunders++) {
            long weight = weightOf(thunders, n);
            if (weight > 0 && staysCalm(thunders, n)) {
                above += weight;
            }
        }
        long below = power(ODDS, n);
        long shared = sharedDivisor(above, below);
        if (shared <= 0) {
            return NO;
        }
        return (part == 0 ? above : below) / shared;
    }

    /** How many of 10^n rolls have THUNDER in just the TENTHS whose bits are set. */
    private long weightOf(int thunders, int n) {
        int loud = Integer.bitCount(thunders);
        return power(now.odds, loud) * power(ODDS - now.odds, n - loud);
    }

    private boolean staysCalm(int thunders, int n) {
        trial.copyFrom(now);
        int loud = now.ring == null ? 1 : now.ring.loud;
        for (int i = 0; i < n; i++) {
            trial.louder = ((thunders >>> i) & 1) != 0 ? loud : 0;
            trial.passTenth();
            if (trial.isCaught()) {
                return false;
            }
        }
        return true;
    }

    public int film(int cell) {
        return comeTo(now.film, cell, FILM_ROOM);
    }

    public int kinds(int beast) {
        if (!now.isBeast(beast)) {
            return NONE;
        }
        int bits = 0;
        for (int kind = 0; kind < KINDS; kind++) {
            trial.copyFrom(now);
            trial.kind.put(beast, kind);
            if (goesAsFilm(beast)) {
                bits |= 1 << kind;
            }
        }
        return bits;
    }

    private boolean goesAsFilm(int beast) {
        for (int i = 0; i < now.film.size; i++) {
            trial.passTenth();
            if (trial.cell.at(beast) != now.film.at(i)) {
                return false;
            }
        }
        return true;
    }

    // ---- judging, the image, acts, tapes

    public int judge(int tape, int i, int n) {
        Tape row = tapeAt(tape);
        if (row == null) {
            return NONE;
        }
        if (!isWithin(n, 0, MOST_TENTHS)) {
            return BAD;
        }
        if (row.isRow() && row.sort != BYTES) {
            return CAST;
        }
        trial.copyFrom(now);
        for (int tenth = 0; tenth < n; tenth++) {
            trial.passTenth();
        }
        for (int beast = 0; beast < trial.size(); beast++) {
            // before the sum, which could wrap
            if (i < 0 || i >= row.length || !row.hasPlace(i + beast)) {
                return 100 + beast;
            }
            if (row.get(i + beast) != trial.cell.at(beast)) {
                return beast;
            }
        }
        return NEVER;
    }

    public int image() {
        image.copyFrom(now);
        hasImage = true;
        return now.size();
    }

    public int undo() {
        if (!hasImage) {
            return STATE;
        }
        now.copyFrom(image);
        return now.size();
    }

    public int act(int beast, int act, int x) {
        acts.forget();
        if (!now.isBeast(beast) || !isWithin(act, TO_YIELD, TO_TELL)) {
            return 0;
        }
        acts.kind = now.kind.at(beast);
        acts.v = now.v.at(beast);
        acts.number = beast;
        return Acts.run(acts, act, acts.kind, x, 0);
    }

    public int trace(int i) {
        return acts.trace.at(i);
    }

    public int taken(int beast, int k) {
        if (!isKind(k)) {
            return BAD;
        }
        if (!now.isBeast(beast)) {
            return NOTHING;
        }
        int kind = now.kind.at(beast);
        return isOneOf(kind, k) ? kind : CAST;
    }

    public int count(int what) {
        switch (what) {
            case 0: return now.size();
            case 1: return ringCount;
            case 2: return now.walk.size;
            case 3: return now.film.size;
            case 4: return reader.text.size;
            case 5: return now.tenth;
            case 6: return acts.ran;
            case 7: return now.tamer;
            default: return BAD;
        }
    }

    public int tape(int tape, int sort, int n) {
        Tape row = tapeAt(tape);
        if (row == null) {
            return NONE;
        }
        if (sort == -1) {
            row.empty();
            return 1;
        }
        if (!isWithin(sort, BYTES, BOOLEANS) || n > TAPE_ROOM) {
            return BAD;
        }
        if (n < 0) {
            return SIZE;
        }
        row.become(sort, n);
        return 1;
    }

    public int item(int tape, int i, long v) {
        Tape row = tapeAt(tape);
        if (row == null) {
            return NONE;
        }
        if (!row.isRow()) {
            return NOTHING;
        }
        if (!row.hasPlace(i)) {
            return PLACE;
        }
        row.put(i, v);
        return 1;
    }

    public long read(int tape, int i) {
        Tape row = tapeAt(tape);
        if (row == null || !row.isRow() || !row.hasPlace(i)) {
            return NO;
        }
        return row.get(i);
    }

    public int shift(int tape, int i, int other, int j, int n) {
        Tape source = tapeAt(tape);
        Tape goal = tapeAt(other);
        if (source == null || goal == null) {
            return NONE;
        }
        if (!source.isRow() || !goal.isRow()) {
            return NOTHING;
        }
        if (source.sort != goal.sort) {
            return CAST;
        }
        if (!source.hasPart(i, n) || !goal.hasPart(j, n)) {
            return PLACE;
        }
        goal.takeFrom(source, i, j, n);
        return n;
    }

    private Tape tapeAt(int i) {
        return i >= 0 && i < TAPES && i < tapes.length ? tapes[i] : null;
    }

    // ---- numbers, cells, kinds

    private static boolean isWithin(int n, int least, int most) {
        return n >= least && n <= most;
    }

    private static boolean isCell(int cell) {
        return isWithin(cell, 0, CELLS - 1);
    }

    private static boolean isKind(int kind) {
        return isWithin(kind, 0, KINDS - 1);
    }

    private static long power(int base, int exponent) {
        long power = 1;
        for (int i = 0; i < exponent; i++) {
            power *= base;
        }
        return power;
    }

    /** The greatest common divisor of numbers that are not below 0. */
    private static long sharedDivisor(long a, long b) {
        long shared = a;
        long rest = b;
        // the rest at least halves in every second turn: 200 are plenty for longs
        for (int i = 0; i < 200 && rest != 0; i++) {
            long next = shared % rest;
            shared = rest;
            rest = next;
        }
        return shared;
    }

    private static int farOf(int a, int b) {
        return Math.max(Math.abs(a / SIDE - b / SIDE), Math.abs(a % SIDE - b % SIDE));
    }

    private static int roundOf(int a, int b) {
        return Math.abs(a / SIDE - b / SIDE) + Math.abs(a % SIDE - b % SIDE);
    }

    /** The CELL NEXT to one at a side (0 .. 3, the least CELL first); NONE beyond the edge. */
    private static int nextTo(int cell, int side) {
        switch (side) {
            case 0: return cell >= SIDE ? cell - SIDE : NONE;
            case 1: return cell % SIDE > 0 ? cell - 1 : NONE;
            case 2: return cell % SIDE < SIDE - 1 ? cell + 1 : NONE;
            default: return cell < CELLS - SIDE ? cell + SIDE : NONE;
        }
    }

    /** The least of the CELLS NEXT to one that are less ROUND from a goal, whoever is there. */
    private static int stepToward(int cell, int goal) {
        for (int side = 0; side < 4; side++) {
            int c = nextTo(cell, side);
            if (c != NONE && roundOf(c, goal) < roundOf(cell, goal)) {
                return c;
            }
        }
        return cell;
    }

    private static int farthestCorner(int cell) {
        int best = 0;
        best = fartherOf(best, SIDE - 1, cell);
        best = fartherOf(best, CELLS - SIDE, cell);
        return fartherOf(best, CELLS - 1, cell);
    }

    /** The one of two that is farther from a CELL, the first if neither is. */
    private static int fartherOf(int first, int second, int cell) {
        return farOf(second, cell) > farOf(first, cell) ? second : first;
    }

    private static int kindAbove(int kind) {
        switch (kind) {
            case YIELDING:
            case COMING:
            case REFUSING: return MOVE;
            case CORNERED:
            case TAUGHT: return YIELDING;
            case FEIGNED: return COMING;
            default: return NONE;
        }
    }

    /** Whether a KIND is another one, or under that. */
    private static boolean isOneOf(int kind, int other) {
        int k = kind;
        for (int level = 0; level < KINDS && k != NONE; level++) {
            if (k == other) {
                return true;
            }
            k = kindAbove(k);
        }
        return false;
    }

    /** A row of numbers with a fixed room; NONE stands at places that it does not have. */
    private static final class Row {
        private final int[] items;
        int size = 0;

        Row(int room) {
            items = new int[Math.max(0, room)];
        }

        int at(int i) {
            return i >= 0 && i < size && i < items.length ? items[i] : NONE;
        }

        void put(int i, int n) {
            if (i >= 0 && i < size && i < items.length) {
                items[i] = n;
            }
        }

        void add(int n) {
            if (size >= 0 && size < items.length) {
                items[size] = n;
                size++;
            }
        }

        void clear() {
            size = 0;
        }

        /** The first place at which a number stands; NONE. */
        int placeOf(int n) {
            for (int i = 0; i < size && i < items.length; i++) {
                if (items[i] == n) {
                    return i;
                }
            }
            return NONE;
        }

        void copyFrom(Row other) {
            clear();
            for (int i = 0; i < other.size; i++) {
                add(other.at(i));
            }
        }
    }

    /** What the TESTS of a RING ask of a BEAST, and what its CLAUSES come to for that one. */
    private static final class Look {
        int number;
        int hunger;
        int near;
        int shut;
        int clock;
        int yields;
        int comes;

        boolean passes(int letter, int sign, int n) {
            int asked;
            switch (letter) {
                case 'n': asked = number; break;
                case 'h': asked = hunger; break;
                case 'b': asked = near; break;
                case 'c': asked = shut; break;
                default: asked = clock; break;
            }
            switch (sign) {
                case '<': return asked < n;
                case '>': return asked > n;
                default: return asked == n;
            }
        }
    }

    /** CLAUSES, kept as a row of parts with each sign (! & |) behind what it joins, each CLAUSE's word last. */
    private static final class Ring {
        private static final int YIELD = 'Y', COME = 'C';

        private final Row parts = new Row(TEXT_ROOM);
        private final Row signs = new Row(TEXT_ROOM);
        private final Row numbers = new Row(TEXT_ROOM);
        int loud = 1;

        void clear() {
            parts.clear();
            signs.clear();
            numbers.clear();
            loud = 1;
        }

        void add(int part, int sign, int number) {
            parts.add(part);
            signs.add(sign);
            numbers.add(number);
        }

        void copyFrom(Ring other) {
            parts.copyFrom(other.parts);
            signs.copyFrom(other.signs);
            numbers.copyFrom(other.numbers);
            loud = other.loud;
        }

        /** Adds the n of the CLAUSES whose E holds to what a look has. */
        void addTo(Look look) {
            // the truths that wait for their sign, the newest in the lowest bit: some 2 for each ( or !
            long truths = 0;
            for (int i = 0; i < parts.size; i++) {
                int part = parts.at(i);
                int n = numbers.at(i);
                boolean holds = (truths & 1) != 0;
                switch (part) {
                    case '!': truths ^= 1; break;
                    case '&': truths = holds ? truths >>> 1 : (truths >>> 1) & ~1L; break;
                    case '|': truths = (truths >>> 1) | (truths & 1); break;
                    case YIELD: look.yields += holds ? n : 0; truths = 0; break;
                    case COME: look.comes += holds ? n : 0; truths = 0; break;
                    default: truths = (truths << 1) | (look.passes(part, signs.at(i), n) ? 1 : 0); break;
                }
            }
        }
    }

    /** THE TEXT, and the RING read from it, a byte at a time: where it stops, no RING goes on so. */
    private static final class Reader {
        final Row text = new Row(TEXT_ROOM);
        final Ring draft = new Ring();
        private int place = 0;

        /** The FAULT of THE TEXT, or NONE: then the draft is what was read. */
        int faultOfText() {
            place = 0;
            draft.clear();
            for (int clause = 0; clause < MOST_CLAUSES; clause++) {
                if (clause > 0 && !accept(';')) {
                    break;
                }
                if (!readClause()) {
                    return place;
                }
            }
            return place == text.size ? NONE : place;
        }

        private boolean readClause() {
            int first = text.at(place);
            boolean isLoud = first == 'l';
            String word = isLoud ? "loud " : first == 'c' ? "come " : "yield ";
            if (!readWord(word)) {
                return false;
            }
            int n = readNumber();
            if (n == NONE) {
                return false;
            }
            if (isLoud) {
                draft.loud = n;
                return true;
            }
            if (!accept(' ') || !readEither(0)) {
                return false;
            }
            draft.add(first == 'c' ? Ring.COME : Ring.YIELD, 0, n);
            return true;
        }

        /** E, within so many ( or !. */
        private boolean readEither(int within) {
            boolean fits = readBoth(within);
            for (int i = 0; i < TEXT_ROOM && fits && accept('|'); i++) {
                fits = readBoth(within);
                draft.add('|', 0, 0);
            }
            return fits;
        }

        /** T, within so many ( or !. */
        private boolean readBoth(int within) {
            boolean fits = readOne(within);
            for (int i = 0; i < TEXT_ROOM && fits && accept('&'); i++) {
                fits = readOne(within);
                draft.add('&', 0, 0);
            }
            return fits;
        }

        /** F, within so many ( or !. */
        private boolean readOne(int within) {
            int inner = within;
            while (inner < MOST_WITHIN && accept('!')) {
                inner++;
            }
            if (inner < MOST_WITHIN && accept('(')) {
                if (!readEither(inner + 1) || !accept(')')) {
                    return false;
                }
            } else {
                int letter = text.at(place);
                if (letter != 'n' && letter != 'h' && letter != 'b' && letter != 'c' && letter != 't') {
                    return false;
                }
                place++;
                int sign = text.at(place);
                if (sign != '<' && sign != '=' && sign != '>') {
                    return false;
                }
                place++;
                int n = readNumber();
                if (n == NONE) {
                    return false;
                }
                draft.add(letter, sign, n);
            }
            // two ! undo one another
            if ((inner - within) % 2 != 0) {
                draft.add('!', 0, 0);
            }
            return true;
        }

        /** 1 or 2 digits; NONE. */
        private int readNumber() {
            int first = text.at(place) - '0';
            if (first < 0 || first > DIGIT) {
                return NONE;
            }
            place++;
            int second = text.at(place) - '0';
            if (second < 0 || second > DIGIT) {
                return first;
            }
            place++;
            return 10 * first + second;
        }

        private boolean readWord(String word) {
            for (int i = 0; i < word.length(); i++) {
                if (!accept(word.charAt(i))) {
                    return false;
                }
            }
            return true;
        }

        private boolean accept(int sign) {
            if (text.at(place) != sign) {
                return false;
            }
            place++;
            return true;
        }
    }

    /** How all is: what THE IMAGE keeps, and how it goes on. */
    private static final class Scene {
        final Row kind = new Row(BEASTS);
        final Row v = new Row(BEASTS);
        final Row cell = new Row(BEASTS);
        final Row stool = new Row(BEASTS);
        final Row hunger = new Row(BEASTS);
        /** Of each BEAST the bits of its ENEMIES. */
        final Row foes = new Row(BEASTS);
        final Row walk = new Row(WALK_ROOM);
        final Row film = new Row(FILM_ROOM);
        int tamer = TAMERS_CELL;
        int tenth = 0;
        int odds = 0;
        /** The RING that holds, or null. */
        Ring ring = null;
        /** How much more YIELDS and COMES are by THUNDER in the TENTH that goes by. */
        int louder = 0;
        /** The newest look at a BEAST. */
        final Look look = new Look();
        /** The CELL in which the newest deed ends. */
        int aim = 0;

        int size() {
            return cell.size;
        }

        boolean isBeast(int i) {
            return i >= 0 && i < size();
        }

        int addBeast(int itsKind, int itsV, int itsCell, int itsHunger) {
            kind.add(itsKind);
            v.add(itsV);
            cell.add(itsCell);
            stool.add(itsCell);
            hunger.add(itsHunger);
            foes.add(0);
            return size() - 1;
        }

        void copyFrom(Scene other) {
            kind.copyFrom(other.kind);
            v.copyFrom(other.v);
            cell.copyFrom(other.cell);
            stool.copyFrom(other.stool);
            hunger.copyFrom(other.hunger);
            foes.copyFrom(other.foes);
            walk.copyFrom(other.walk);
            film.copyFrom(other.film);
            tamer = other.tamer;
            tenth = other.tenth;
            odds = other.odds;
            ring = other.ring;
            louder = other.louder;
        }

        boolean holdsBeast(int c) {
            return cell.placeOf(c) != NONE;
        }

        boolean isCaught() {
            return holdsBeast(tamer);
        }

        boolean isStool(int c) {
            return stool.placeOf(c) != NONE;
        }

        boolean areEnemies(int a, int b) {
            return ((foes.at(a) >>> b) & 1) != 0;
        }

        void setEnemy(int a, int b, boolean are) {
            int others = foes.at(a) & ~(1 << b);
            foes.put(a, are ? others | 1 << b : others);
        }

        boolean isSeated(int i) {
            return cell.at(i) == stool.at(i);
        }

        boolean allSit() {
            for (int i = 0; i < size(); i++) {
                if (!isSeated(i)) {
                    return false;
                }
            }
            return true;
        }

        /** Whether THE TAMER could go as told; else it stays. */
        boolean goTo(int c) {
            if (c == tamer) {
                return true;
            }
            if (roundOf(c, tamer) != 1 || holdsBeast(c)) {
                return false;
            }
            tamer = c;
            return true;
        }

        void passTenth() {
            for (int i = 0; i < size(); i++) {
                deedOf(i);
                cell.put(i, aim);
            }
            tenth++;
        }

        boolean anyComes() {
            for (int i = 0; i < size(); i++) {
                if (deedOf(i) == COMES) {
                    return true;
                }
            }
            return false;
        }

        /** Whether a BEAST would leave its CELL, and none else. */
        boolean leavesAlone(int beast) {
            for (int i = 0; i < size(); i++) {
                if ((deedOf(i) != STAYS) != (i == beast)) {
                    return false;
                }
            }
            return true;
        }

        /** YIELDS and COMES of a BEAST, by its KIND and by THUNDER, come into the look. */
        void lookAt(int i) {
            look.number = i;
            look.hunger = hunger.at(i);
            look.near = nearOnes(i);
            look.shut = shutSides(cell.at(i));
            look.clock = tenth % 60;
            look.yields = 0;
            look.comes = 0;
            if (ring != null) {
                ring.addTo(look);
            }
            look.yields = Math.min(look.yields, MOST_YIELDS);
            look.comes = Math.max(0, Math.min(look.comes, look.yields - 1));
            if (isOneOf(kind.at(i), COMING)) {
                look.comes += v.at(i);
            }
            look.yields += louder;
            look.comes += louder;
        }

        private int nearOnes(int beast) {
            int near = 0;
            for (int i = 0; i < size(); i++) {
                if (i != beast && farOf(cell.at(i), cell.at(beast)) <= NEAR) {
                    near++;
                }
            }
            return near;
        }

        private int shutSides(int own) {
            int shut = 0;
            for (int side = 0; side < 4; side++) {
                int c = nextTo(own, side);
                if (c == NONE || holdsBeast(c)) {
                    shut++;
                }
            }
            return shut;
        }

        /** What a BEAST would do if it were its turn; the aim is then the CELL in which it would be. */
        int deedOf(int i) {
            lookAt(i);
            int own = cell.at(i);
            int itsKind = kind.at(i);
            int far = farOf(own, tamer);
            aim = own;
            if (itsKind == REFUSING && refuses(v.at(i))) {
                return STAYS;
            }
            if (isOneOf(itsKind, YIELDING)) {
                return yieldingDeed(i, far <= look.comes || far <= look.yields);
            }
            if (far <= look.comes) {
                return cameTo(tamer, own, itsKind != FEIGNED) ? COMES : STAYS;
            }
            return far <= look.yields && yielded(own) ? YIELDS : STAYS;
        }

        private boolean refuses(int every) {
            return every > 0 && tenth % every == 0;
        }

        private int yieldingDeed(int i, boolean flees) {
            int own = cell.at(i);
            if (flees && yielded(own)) {
                return YIELDS;
            }
            if (flees) {
                return kind.at(i) == CORNERED && cameTo(tamer, own, true) ? COMES : STAYS;
            }
            boolean taught = kind.at(i) == TAUGHT && farOf(own, stool.at(i)) <= v.at(i);
            return taught && cameTo(stool.at(i), own, false) ? STOOLWARD : STAYS;
        }

        /** Aims at the CELL to yield to, if there is one. */
        private boolean yielded(int own) {
            int most = roundOf(own, tamer);
            for (int side = 0; side < 4; side++) {
                int c = nextTo(own, side);
                if (c != NONE && !holdsBeast(c) && roundOf(c, tamer) > most) {
                    most = roundOf(c, tamer);
                    aim = c;
                }
            }
            return aim != own;
        }

        /** Aims at the CELL that is less ROUND from a goal, if there is one. */
        private boolean cameTo(int goal, int own, boolean intoTamer) {
            int least = roundOf(own, goal);
            for (int side = 0; side < 4; side++) {
                int c = nextTo(own, side);
                boolean open = c != NONE && !holdsBeast(c) && (intoTamer || c != tamer);
                if (open && roundOf(c, goal) < least) {
                    least = roundOf(c, goal);
                    aim = c;
                }
            }
            return aim != own;
        }

        /** THE TAMER's and the BEASTS' CELLS in one number. */
        long places() {
            long places = tamer;
            for (int i = 0; i < size(); i++) {
                places = places << 6 | cell.at(i);
            }
            return places;
        }

        void setPlaces(long places) {
            long rest = places;
            for (int i = size() - 1; i >= 0; i--) {
                cell.put(i, (int) (rest & 63));
                rest >>>= 6;
            }
            tamer = (int) (rest & 63);
        }
    }

    /** SHORTEST: the scenes behind all WALKS, those of fewer TENTHS first, then by the row of CELLS. */
    private static final class Hunt {
        static final int MOST = 5;
        /** 1 + 5 + 25 + 125 + 625: THE TAMER stays or goes one of four ways. */
        private static final int ROOM = 781;
        private static final int WAYS = 5, STAYING = 2;

        private final long[] scenes = new long[ROOM];
        private final Row walks = new Row(ROOM);
        private final Row lengths = new Row(ROOM);
        int tenths = NEVER;
        /** The CELLS of the WALK that was found, 6 bits each, the last one lowest. */
        private int walk = 0;

        /** Plays on in a scene that may be changed. */
        void search(Scene scene, int beast) {
            int start = scene.tenth;
            walks.clear();
            lengths.clear();
            tenths = scene.isSeated(beast) ? 0 : NEVER;
            keep(scene, beast, 0, 0);
            for (int k = 0; k < walks.size && k < ROOM && k < scenes.length; k++) {
                int length = lengths.at(k) + 1;
                for (int way = 0; way < WAYS && tenths == NEVER; way++) {
                    scene.setPlaces(scenes[k]);
                    scene.tenth = start + length - 1;
                    int c = cellOfWay(scene.tamer, way);
                    if (c == NONE || !scene.goTo(c)) {
                        continue;
                    }
                    scene.passTenth();
                    if (scene.isCaught()) {
                        continue;
                    }
                    int told = walks.at(k) << 6 | c;
                    if (scene.isSeated(beast)) {
                        tenths = length;
                        walk = told;
                    } else {
                        keep(scene, beast, told, length);
                    }
                }
            }
        }

        /** Keeps a scene to go on from, if the BEAST could still reach its STOOL: it goes a CELL in a TENTH. */
        private void keep(Scene scene, int beast, int told, int length) {
            int k = walks.size;
            int left = roundOf(scene.cell.at(beast), scene.stool.at(beast));
            long places = scene.places();
            if (left > MOST - length || isKept(places, length)) {
                return;
            }
            if (k >= 0 && k < ROOM && k < scenes.length) {
                scenes[k] = places;
                walks.add(told);
                lengths.add(length);
            }
        }

        /** Whether an earlier WALK of that length led to the same: what comes then is the same, and its row first. */
        private boolean isKept(long places, int length) {
            for (int k = walks.size - 1; k >= 0 && k < scenes.length && lengths.at(k) == length; k--) {
                if (scenes[k] == places) {
                    return true;
                }
            }
            return false;
        }

        private static int cellOfWay(int cell, int way) {
            if (way == STAYING) {
                return cell;
            }
            return nextTo(cell, way < STAYING ? way : way - 1);
        }

        int cellOf(int i) {
            if (i < 0 || i >= tenths) {
                return NEVER;
            }
            return (walk >>> (6 * (tenths - 1 - i))) & 63;
        }
    }

    /** SEATS: all rows of STOOLS, by CELLS; the first of the least sum is kept. */
    private static final class Seating {
        private final Row stools = new Row(BEASTS);
        private final Row chosen = new Row(BEASTS);
        final Row best = new Row(BEASTS);
        int sum = NEVER;

        void search(Scene scene) {
            sum = NEVER;
            stools.clear();
            chosen.clear();
            for (int c = 0; c < CELLS; c++) {
                if (scene.isStool(c)) {
                    stools.add(c);
                }
            }
            seatFrom(this, scene, 0, 0, 0);
        }

        /** Seats the BEASTS from one on; used: the bits of the STOOLS that those ahead of it have. */
        private static void seatFrom(Seating seating, Scene scene, int beast, int used, int sum) {
            if (beast >= scene.size() || beast >= BEASTS) {
                seating.keep(sum);
                return;
            }
            for (int k = 0; k < seating.stools.size; k++) {
                int c = seating.stools.at(k);
                if ((used >>> k & 1) != 0 || seating.isByEnemy(scene, beast, c)) {
                    continue;
                }
                seating.chosen.size = beast;
                seating.chosen.add(c);
                seatFrom(seating, scene, beast + 1, used | 1 << k, sum + roundOf(scene.cell.at(beast), c));
            }
        }

        private boolean isByEnemy(Scene scene, int beast, int c) {
            for (int i = 0; i < beast; i++) {
                if (scene.areEnemies(beast, i) && roundOf(chosen.at(i), c) == 1) {
                    return true;
                }
            }
            return false;
        }

        private void keep(int itsSum) {
            if (sum == NEVER || itsSum < sum) {
                sum = itsSum;
                best.copyFrom(chosen);
            }
        }
    }

    /** ACTS: the BODIES by their numbers, and THE TRACE of those that ran. */
    private static final class Acts {
        private static final int TRACE_ROOM = 20, DEEPEST = 20;

        final Row trace = new Row(TRACE_ROOM);
        int ran = 0;
        int kind = MOVE;
        int v = 0;
        int number = 0;

        void forget() {
            trace.clear();
            ran = 0;
        }

        /** Runs the body of a KIND, or of the next one above that has one. */
        private static int run(Acts a, int act, int from, int x, int depth) {
            if (depth > DEEPEST) {
                return 0;
            }
            int owner = from;
            for (int level = 0; level < KINDS && bodyOf(owner, act) == NONE; level++) {
                owner = kindAbove(owner);
            }
            int body = bodyOf(owner, act);
            if (body == NONE) {
                return 0;
            }
            int above = kindAbove(owner);
            int d = depth + 1;
            a.ran++;
            a.trace.add(body);
            switch (body) {
                case 10: return x + a.number;
                case 11: return run(a, TO_YIELD, a.kind, x, d) - a.v;
                case 12: return run(a, TO_COME, a.kind, x, d) * 2;
                case 20: return run(a, TO_COME, above, x, d) ^ 6;
                case 30: return run(a, TO_YIELD, above, x * 3, d);
                case 40: return run(a, TO_TELL, above, x, d) + run(a, TO_COME, a.kind, 1, d);
                case 50: return -run(a, TO_YIELD, above, x, d);
                case 51: return run(a, TO_COME, above, x + 1, d);
                case 60: return run(a, TO_TELL, above, x - a.number, d);
                case 70: return run(a, TO_COME, above, x, d) + run(a, TO_YIELD, above, 2, d);
                case 71: return run(a, TO_YIELD, above, x, d) ^ a.v;
                default: return 0;
            }
        }

        /** The number of the body that a KIND has for an act; NONE. */
        private static int bodyOf(int kind, int act) {
            switch (kind) {
                case MOVE: return act == TO_YIELD ? 10 : act == TO_COME ? 11 : 12;
                case YIELDING: return act == TO_COME ? 20 : NONE;
                case COMING: return act == TO_YIELD ? 30 : NONE;
                case REFUSING: return act == TO_TELL ? 40 : NONE;
                case CORNERED: return act == TO_YIELD ? 50 : act == TO_COME ? 51 : NONE;
                case TAUGHT: return act == TO_TELL ? 60 : NONE;
                case FEIGNED: return act == TO_COME ? 70 : act == TO_YIELD ? 71 : NONE;
                default: return NONE;
            }
        }
    }

    /** A TAPE: a row of a sort, or nothing. */
    private static final class Tape {
        private static final int EMPTY = -1;

        private final long[] items = new long[TAPE_ROOM];
        int sort = EMPTY;
        int length = 0;

        boolean isRow() {
            return sort != EMPTY;
        }

        void empty() {
            sort = EMPTY;
            length = 0;
        }

        void become(int itsSort, int n) {
            sort = itsSort;
            length = Math.max(0, Math.min(n, TAPE_ROOM));
            for (int i = 0; i < items.length; i++) {
                items[i] = 0;
            }
        }

        boolean hasPlace(int i) {
            return i >= 0 && i < length && i < items.length;
        }

        /** Whether all n places from i on are there. */
        boolean hasPart(int i, int n) {
            // a difference, as the sum could wrap
            return i >= 0 && n >= 0 && i <= length && n <= length - i;
        }

        long get(int i) {
            return hasPlace(i) ? items[i] : 0;
        }

        void put(int i, long item) {
            if (hasPlace(i)) {
                items[i] = narrowed(item);
            }
        }

        private long narrowed(long item) {
            switch (sort) {
                case BYTES: return (byte) item;
                case SHORTS: return (short) item;
                case INTS: return (int) item;
                case BOOLEANS: return item != 0 ? 1 : 0;
                default: return item;
            }
        }

        /** Items of a like TAPE come here, as they all were before. */
        void takeFrom(Tape source, int i, int j, int n) {
            if (source.hasPart(i, n) && hasPart(j, n)) {
                System.arraycopy(source.items, i, items, j, n);
            }
        }
    }
}
