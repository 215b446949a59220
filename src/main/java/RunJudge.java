import java.util.Arrays;

/**
 * A judge of runs and fights played over letters that come late. The document (DOC.md) tells what each call answers;
 * words in capitals in the comments are the document's terms.
 */
public final class RunJudge {
    public static final int NONE = -1, STARTED = -2, KIND = -3, FULL = -4, GARBLED = -5, SEQ = -6, LATE = -7, EARLY = -8, TWICE = -9, DEAD = -10;
    public static final int NOTHING = -11, CAST = -12, PLACE = -13, SIZE = -14, THROWN = -15, CRAFTED = -16;

    private static final int MAX_CELLS = 100, MAX_THINGS = 16, MAX_DOORS = 8, MAX_PLAYERS = 4, MAX_TICKS = 500;
    private static final int FLOOR = 0, WALL = 1, DOOR = 2, PLATE = 3, OPEN_DOOR = 4;
    private static final int BODY = 0, BEAST = 1, WOLF = 2, POT = 3, TRAP = 4, STONE = 5, LAMP = 6, CROWN = 7;
    private static final int WAIT = 0, STEP = 1, SHOT = 2, OPEN = 3, TAKE = 4, PUT = 5, THROW = 6;
    private static final int UP = 0, RIGHT = 1, DOWN = 2, LEFT = 3;
    private static final int GONE = -1, CARRIED = -2;
    private static final int NO_ACT = 4096;
    private static final int SHOT_CELLS = 7, THROW_CELLS = 4, FULL_LIFE = 5;
    private static final int RING = 16, REMEMBERED = 8, MOST_LATE = 8, MOST_EARLY = 2;
    private static final int ONE = 1 << 20, DOOR_CHANCE = 1 << 16, GAP_CHANCE = 1 << 18, NO_TRIAL = -1, MAX_TRIALS = 64;
    private static final int TAPES = 6, MAX_ROW = 80, BYTES = 1, SHORTS = 2, INTS = 3, LONGS = 4, VIEW = 5;
    private static final int MAX_NOTED = 64;
    private static final int[] FIRST_LIFE = {5, 2, 3, 0, 0, 0, 0, 0};

    private final Ground ground;
    private final State first;
    private final Ring ring;
    private final Ring lone;
    private final Log log;
    private final Ledger ledger;
    private final Suspect[] suspects;
    private final Tape[] tapes;
    private final int[] nextSeq;
    private int now;
    private int lateness;
    private int riskParts;
    private int takenLetters;
    private int refusedLetters;
    private int hostRefusals;

    public RunJudge() {
        ground = new Ground();
        first = new State(ground);
        ring = new Ring(RING, ground);
        lone = new Ring(1, ground);
        log = new Log();
        ledger = new Ledger();
        suspects = new Suspect[MAX_PLAYERS];
        for (int p = 0; p < MAX_PLAYERS; p++) {
            suspects[p] = new Suspect();
        }
        tapes = new Tape[TAPES];
        for (int d = 0; d < TAPES; d++) {
            tapes[d] = new Tape();
        }
        nextSeq = new int[MAX_PLAYERS];
        startAnew(7, 7, 2);
    }

    // ---- the world is made

    public int begin(int w, int h, int players) {
        if (w < 3 || w > 10 || h < 3 || h > 10 || players < 1 || players > MAX_PLAYERS) {
            return NONE;
        }
        startAnew(w, h, players);
        return ground.cells;
    }

    private void startAnew(int w, int h, int players) {
        ground.lay(w, h, players);
        first.arrange();
        ring.restart(first);
        log.wipe();
        ledger.wipe();
        for (int p = 0; p < MAX_PLAYERS; p++) {
            suspects[p].wipe();
        }
        Arrays.fill(nextSeq, 0);
        now = 0;
        lateness = 4;
        riskParts = 1048;
        takenLetters = 0;
        refusedLetters = 0;
        hostRefusals = 0;
    }

    private boolean hasStarted() {
        return now > 0 || takenLetters > 0;
    }

    public int wall(int cell) {
        if (!ground.hasCell(cell)) {
            return NONE;
        }
        if (hasStarted()) {
            return STARTED;
        }
        int was = ground.map[cell];
        if (was != FLOOR && was != WALL || first.holdsThing(cell)) {
            return KIND;
        }
        ground.map[cell] = was == FLOOR ? WALL : FLOOR;
        return ground.map[cell];
    }

    public int door(int cell, int word) {
        if (!ground.hasCell(cell) || word < 0 || word > 15) {
            return NONE;
        }
        if (hasStarted()) {
            return STARTED;
        }
        if (ground.map[cell] != FLOOR || first.holdsThing(cell)) {
            return KIND;
        }
        if (ground.doors >= MAX_DOORS) {
            return FULL;
        }
        return ground.addDoor(cell, word);
    }

    public int plate(int cell, int door) {
        if (!ground.hasCell(cell) || !ground.hasDoor(door)) {
            return NONE;
        }
        if (hasStarted()) {
            return STARTED;
        }
        if (ground.map[cell] != FLOOR) {
            return KIND;
        }
        ground.map[cell] = PLATE;
        ground.link[cell] = door;
        first.readPlates();
        ring.restart(first);
        return PLATE;
    }

    public int place(int kind, int cell) {
        if (kind < BEAST || kind > CROWN || !ground.hasCell(cell)) {
            return NONE;
        }
        if (hasStarted()) {
            return STARTED;
        }
        boolean needsRoom = kind == BEAST || kind == WOLF;
        if (ground.map[cell] == WALL || ground.map[cell] == DOOR || needsRoom && first.standingIn(cell) >= 0) {
            return KIND;
        }
        if (ground.things >= MAX_THINGS) {
            return FULL;
        }
        int n = ground.addThing(kind);
        first.putNew(n, kind, cell);
        ring.restart(first);
        return n;
    }

    public int late(int ticks) {
        if (ticks < 0 || ticks > MOST_LATE) {
            return NONE;
        }
        if (hasStarted()) {
            return STARTED;
        }
        int was = lateness;
        lateness = ticks;
        return was;
    }

    public int risk(int parts) {
        if (parts < 0 || parts > ONE) {
            return NONE;
        }
        int was = riskParts;
        riskParts = parts;
        return was;
    }

    // ---- letters to the host

    public long pack(int kind, int d, int w, int tick, int seq) {
        int k = kind & 15;
        int e = d & 3;
        int x = w & 15;
        int t = tick & 0xFFFF;
        int s = seq & 255;
        return Bits.join(k | e << 4 | x << 6 | t << 10, s, Bits.sumOf(k, e, x, t, s));
    }

    public int feed(int p, long bits) {
        return receive(p, bits);
    }

    private int receive(int p, long bits) {
        int refusal = refusalOf(p, bits);
        if (refusal < 0) {
            refusedLetters++;
            return refusal;
        }
        int t = Bits.tickOf(bits);
        log.noteAct(t, p, Bits.codeOf(bits), t < now);
        nextSeq[p] = nextSeq[p] + 1 & 255;
        takenLetters++;
        if (t >= now) {
            return 0;
        }
        ledger.keepHits(log, t, now);
        ring.work(t, now, log);
        ledger.noteGoingBack(log, t, now);
        return now - t;
    }

    private int refusalOf(int p, long bits) {
        if (!ground.hasPlayer(p)) {
            return NONE;
        }
        if (!Bits.areWhole(bits)) {
            return GARBLED;
        }
        if (!Bits.areOfAKind(bits)) {
            return KIND;
        }
        if (Bits.seqOf(bits) != nextSeq[p]) {
            return SEQ;
        }
        int t = Bits.tickOf(bits);
        if (t < now - lateness) {
            return LATE;
        }
        if (t > now + MOST_EARLY || t >= MAX_TICKS) {
            return EARLY;
        }
        if (log.codeOf(t, p) != NO_ACT) {
            return TWICE;
        }
        State state = ring.stateAt(t < now ? t : now);
        if (state.life[p] <= 0) {
            return DEAD;
        }
        return t <= now && state.forbids(p, Bits.codeOf(bits)) ? CRAFTED : 0;
    }

    public int step() {
        if (now >= MAX_TICKS) {
            return FULL;
        }
        ring.work(now, now + 1, log);
        now++;
        int settled = now - lateness - 1;
        for (int p = 0; p < ground.players && settled >= 0; p++) {
            lookAt(settled, p);
        }
        return now;
    }

    private void lookAt(int t, int p) {
        State state = ring.stateAt(t);
        Suspect suspect = suspects[p];
        int code = log.codeOf(t, p);
        int kind = Bits.kindOf(code);
        int d = Bits.directionOf(code);
        boolean hasHit = log.hitOf(t, p) > 0;
        if (hasHit) {
            suspect.countHit(log.isLate(t, p));
        }
        if (state.life[p] <= 0 || kind == WAIT) {
            return;
        }
        if (kind == SHOT) {
            suspect.foreseeing.addTrial(state.shotChance(p, d), hasHit, riskParts, now);
        } else if (kind == OPEN) {
            boolean isRight = state.isWordNext(p, d, Bits.wordOf(code));
            suspect.foreseeing.addTrial(state.wordChance(p, d), isRight, riskParts, now);
        }
        suspect.lookAtGap(t, riskParts, now);
    }

    // ---- what is asked of the world

    public int body(int p, int what) {
        if (!ground.hasPlayer(p)) {
            return NONE;
        }
        State state = ring.stateAt(now);
        switch (what) {
            case 0: return state.cell[p];
            case 1: return state.life[p];
            case 2: return state.face[p];
            case 3: return state.rest[p];
            case 4: return state.load[p];
            case 5: return state.points[p];
            case 6: return state.known[p];
            default: return NONE;
        }
    }

    public int thing(int n, int what) {
        if (n < 0 || n >= ground.things) {
            return NONE;
        }
        State state = ring.stateAt(now);
        switch (what) {
            case 0: return ground.kinds[n];
            case 1: return state.cell[n];
            case 2: return state.life[n];
            case 3: return state.bearer[n];
            default: return NONE;
        }
    }

    public int open(int door) {
        if (!ground.hasDoor(door)) {
            return NONE;
        }
        return ring.stateAt(now).opened[door];
    }

    public int sees(int p, int cell) {
        if (!ground.hasPlayer(p) || !ground.hasCell(cell)) {
            return NONE;
        }
        return ring.stateAt(now).spots(p, cell) ? 1 : 0;
    }

    public int told(int p, int cell) {
        if (!ground.hasPlayer(p) || !ground.hasCell(cell)) {
            return NONE;
        }
        return ring.stateAt(now).tellOf(p, cell);
    }

    public int letter(int p, int t) {
        if (!ground.hasPlayer(p) || !remembers(t)) {
            return NONE;
        }
        return ring.stateAt(t).letterTo(p);
    }

    public int digest(int t) {
        return remembers(t) ? ring.stateAt(t).sumUp() : NONE;
    }

    private boolean remembers(int t) {
        return t >= 0 && t <= now && t >= now - REMEMBERED;
    }

    public int replay(int t) {
        if (t < 0 || t > now) {
            return NONE;
        }
        lone.restart(first);
        lone.work(0, t, log);
        return lone.stateAt(t).sumUp();
    }

    public int fall() {
        int was = ring.stateAt(now).sumUp();
        ring.restart(first);
        ring.work(0, now, log);
        return ring.stateAt(now).sumUp() == was ? 1 : 0;
    }

    // ---- what is asked of the host and the watch

    public int act(int t, int p) {
        if (t < 0 || t >= MAX_TICKS || !ground.hasPlayer(p)) {
            return NONE;
        }
        return log.codeOf(t, p);
    }

    public int hit(int t, int p) {
        if (t < 0 || t >= now || !ground.hasPlayer(p)) {
            return NONE;
        }
        return log.hitOf(t, p);
    }

    public int taken(int i, int what) {
        if (i < 0 || i >= ledger.noted() || what < 0 || what > 3) {
            return NONE;
        }
        return ledger.notes[i * 4 + what];
    }

    public int back(int what) {
        switch (what) {
            case 0: return ledger.goings;
            case 1: return ledger.ticks;
            case 2: return ledger.mostTicks;
            case 3: return ledger.takenBack;
            default: return NONE;
        }
    }

    public int watch(int p, int kind, int what) {
        if (!ground.hasPlayer(p) || kind < 0 || kind > 1) {
            return NONE;
        }
        Odds odds = kind == 0 ? suspects[p].foreseeing : suspects[p].machine;
        switch (what) {
            case 0: return odds.trials;
            case 1: return odds.successes;
            case 2: return odds.tail();
            case 3: return odds.toldMark;
            default: return NONE;
        }
    }

    public int fair(int p, int what) {
        if (!ground.hasPlayer(p) || what < 0 || what > 1) {
            return NONE;
        }
        return what == 1 ? suspects[p].lateHits : suspects[p].timelyHits;
    }

    public int count(int what) {
        switch (what) {
            case 0: return ground.columns;
            case 1: return ground.rows;
            case 2: return ground.players;
            case 3: return ground.things;
            case 4: return ground.doors;
            case 5: return now;
            case 6: return lateness;
            case 7: return riskParts;
            case 8: return takenLetters;
            case 9: return refusedLetters;
            case 10: return hostRefusals;
            default: return NONE;
        }
    }

    // ---- the tapes

    private static boolean isTape(int d) {
        return d >= 0 && d < TAPES;
    }

    private int refuse(int refusal) {
        hostRefusals++;
        return refusal;
    }

    /** NONE, NOTHING or CAST, if TAPE d holds none of the sorts least .. most; 0 if it does. */
    private int refuseBut(int d, int least, int most) {
        if (!isTape(d)) {
            return NONE;
        }
        if (tapes[d].sort == 0) {
            return refuse(NOTHING);
        }
        return tapes[d].sort < least || tapes[d].sort > most ? refuse(CAST) : 0;
    }

    public int tape(int d, int sort, int n) {
        if (!isTape(d) || sort < BYTES || sort > LONGS || n > MAX_ROW) {
            return NONE;
        }
        if (n < 0) {
            return refuse(SIZE);
        }
        tapes[d].holdRow(sort, n);
        return n;
    }

    public int view(int d, int p) {
        if (!isTape(d) || !ground.hasPlayer(p)) {
            return NONE;
        }
        tapes[d].holdView(ring.stateAt(now), p);
        return tapes[d].toldCells;
    }

    public int clear(int d) {
        if (!isTape(d)) {
            return NONE;
        }
        int was = tapes[d].sort;
        tapes[d].sort = 0;
        return was;
    }

    public int put(int d, int i, long v) {
        int refusal = refuseBut(d, BYTES, LONGS);
        if (refusal < 0) {
            return refusal;
        }
        Tape tape = tapes[d];
        if (!tape.hasPlace(i)) {
            return refuse(PLACE);
        }
        tape.row[i] = tape.narrowed(v);
        return 1;
    }

    public long at(int d, int i) throws IllegalArgumentException, IllegalStateException {
        if (!isTape(d)) {
            throw new IllegalArgumentException("no such tape");
        }
        Tape tape = tapes[d];
        if (!tape.isRow() || !tape.hasPlace(i)) {
            throw new IllegalStateException("no row with such a place");
        }
        return tape.row[i];
    }

    public int copy(int d, int i, int e, int j, int n) {
        if (!isTape(d) || !isTape(e)) {
            return NONE;
        }
        Tape from = tapes[d];
        Tape to = tapes[e];
        if (from.sort == 0 || to.sort == 0) {
            return refuse(NOTHING);
        }
        if (!from.isRow() || from.sort != to.sort) {
            return refuse(CAST);
        }
        if (!from.hasPlaces(i, n) || !to.hasPlaces(j, n)) {
            return refuse(PLACE);
        }
        System.arraycopy(from.row, i, to.row, j, n);
        return n;
    }

    public int play(int d, int i, int n, int p) {
        if (!ground.hasPlayer(p) || n < 0 || n > MAX_ROW) {
            return NONE;
        }
        int refusal = refuseBut(d, LONGS, LONGS);
        if (refusal < 0) {
            return refusal;
        }
        Tape tape = tapes[d];
        for (int k = 0; k < n; k++) {
            int place = i + k;
            if (!tape.hasPlace(place)) {
                return refuse(PLACE);
            }
            if (receive(p, tape.row[place]) < 0) {
                return k;
            }
        }
        return n;
    }

    public int kept(int d, int cell) {
        int refusal = refuseBut(d, VIEW, VIEW);
        if (refusal < 0) {
            return refusal;
        }
        Tape tape = tapes[d];
        if (!tape.hasPlace(cell)) {
            return refuse(PLACE);
        }
        return tape.tidings[cell];
    }

    public int toss(int d) {
        int refusal = refuseBut(d, VIEW, VIEW);
        if (refusal < 0) {
            return refusal;
        }
        Tape tape = tapes[d];
        try {
            tape.throwFailure();
        } catch (IllegalStateException failure) {
            return tape.toldCells;
        }
        return refuse(THROWN);
    }

    /** How the ACT, tick, SEQ and SUM lie in a letter's BITS. The low ten bits, the CODE, are an ACT as act() tells it. */
    private static final class Bits {
        static long join(int low, int seq, int sum) {
            return low | (long) seq << 26 | (long) sum << 34;
        }

        static int sumOf(int kind, int d, int w, int tick, int seq) {
            return kind + 3 * d + 5 * w + 7 * tick + 11 * seq & 255;
        }

        static int codeOf(long bits) {
            return (int) (bits & 1023);
        }

        static int kindOf(int code) {
            return code & 15;
        }

        static int directionOf(int code) {
            return code >> 4 & 3;
        }

        static int wordOf(int code) {
            return code >> 6 & 15;
        }

        static int tickOf(long bits) {
            return (int) (bits >> 10 & 0xFFFF);
        }

        static int seqOf(long bits) {
            return (int) (bits >> 26 & 255);
        }

        static boolean areWhole(long bits) {
            int code = codeOf(bits);
            int sum = sumOf(kindOf(code), directionOf(code), wordOf(code), tickOf(bits), seqOf(bits));
            return bits >>> 34 == sum;
        }

        static boolean areOfAKind(long bits) {
            int code = codeOf(bits);
            int kind = kindOf(code);
            boolean needsNoDirection = kind == WAIT || kind == TAKE || kind == PUT;
            return kind <= THROW
                && (kind == OPEN || wordOf(code) == 0)
                && (!needsNoDirection || directionOf(code) == 0);
        }
    }

    /** What of the world stays the same from tick to tick. */
    private static final class Ground {
        int columns;
        int rows;
        int players;
        int cells;
        int doors;
        int things;
        final int[] map = new int[MAX_CELLS];
        /** The DOOR that a DOOR's or a PLATE's CELL has to do with. */
        final int[] link = new int[MAX_CELLS];
        final int[] columnOf = new int[MAX_CELLS];
        final int[] rowOf = new int[MAX_CELLS];
        final int[] neighbours = new int[MAX_CELLS * 4];
        final int[] words = new int[MAX_DOORS];
        final int[] kinds = new int[MAX_THINGS];

        void lay(int w, int h, int p) {
            columns = w;
            rows = h;
            players = p;
            cells = w * h;
            doors = 0;
            things = p;
            Arrays.fill(map, FLOOR);
            Arrays.fill(link, 0);
            Arrays.fill(kinds, BODY);
            for (int y = 0; y < h; y++) {
                for (int x = 0; x < w; x++) {
                    layCell(x, y);
                }
            }
        }

        private void layCell(int x, int y) {
            int c = y * columns + x;
            columnOf[c] = x;
            rowOf[c] = y;
            neighbours[c * 4 + UP] = y > 0 ? c - columns : NONE;
            neighbours[c * 4 + RIGHT] = x < columns - 1 ? c + 1 : NONE;
            neighbours[c * 4 + DOWN] = y < rows - 1 ? c + columns : NONE;
            neighbours[c * 4 + LEFT] = x > 0 ? c - 1 : NONE;
        }

        int addDoor(int c, int word) {
            map[c] = DOOR;
            link[c] = doors;
            words[doors] = word;
            return doors++;
        }

        int addThing(int kind) {
            kinds[things] = kind;
            return things++;
        }

        boolean hasCell(int c) {
            return c >= 0 && c < cells;
        }

        boolean hasDoor(int door) {
            return door >= 0 && door < doors;
        }

        boolean hasPlayer(int p) {
            return p >= 0 && p < players;
        }

        int firstCellOf(int p) {
            switch (p) {
                case 0: return 0;
                case 1: return cells - 1;
                case 2: return columns - 1;
                default: return (rows - 1) * columns;
            }
        }

        /** The CELL next to c in direction d, or NONE at the edge. */
        int nextTo(int c, int d) {
            return neighbours[c * 4 + d];
        }
    }

    /** The STATE at a tick, what can be asked of it, and how a tick changes it. */
    private static final class State {
        final Ground ground;
        final int[] cell = new int[MAX_THINGS];
        final int[] life = new int[MAX_THINGS];
        /** The BODY that carries a THING, or NONE. */
        final int[] bearer = new int[MAX_THINGS];
        final int[] face = new int[MAX_PLAYERS];
        final int[] rest = new int[MAX_PLAYERS];
        /** The THING that a BODY carries, or NONE. */
        final int[] load = new int[MAX_PLAYERS];
        final int[] points = new int[MAX_PLAYERS];
        final int[] known = new int[MAX_PLAYERS];
        final int[] opened = new int[MAX_DOORS];

        State(Ground ground) {
            this.ground = ground;
        }

        // -- at first

        void arrange() {
            Arrays.fill(cell, GONE);
            Arrays.fill(life, 0);
            Arrays.fill(bearer, NONE);
            Arrays.fill(face, RIGHT);
            Arrays.fill(rest, 0);
            Arrays.fill(load, NONE);
            Arrays.fill(points, 0);
            Arrays.fill(known, 0);
            Arrays.fill(opened, 0);
            for (int p = 0; p < ground.players; p++) {
                putNew(p, BODY, ground.firstCellOf(p));
            }
        }

        void putNew(int n, int kind, int c) {
            cell[n] = c;
            life[n] = FIRST_LIFE[kind];
        }

        void copyFrom(State other) {
            System.arraycopy(other.cell, 0, cell, 0, MAX_THINGS);
            System.arraycopy(other.life, 0, life, 0, MAX_THINGS);
            System.arraycopy(other.bearer, 0, bearer, 0, MAX_THINGS);
            System.arraycopy(other.face, 0, face, 0, MAX_PLAYERS);
            System.arraycopy(other.rest, 0, rest, 0, MAX_PLAYERS);
            System.arraycopy(other.load, 0, load, 0, MAX_PLAYERS);
            System.arraycopy(other.points, 0, points, 0, MAX_PLAYERS);
            System.arraycopy(other.known, 0, known, 0, MAX_PLAYERS);
            System.arraycopy(other.opened, 0, opened, 0, MAX_DOORS);
        }

        // -- what stands where

        /** The dead stay in their CELL, but neither STAND nor LIE there. */
        boolean standsOrLiesIn(int n, int c) {
            return cell[n] == c && (ground.kinds[n] > WOLF || life[n] > 0);
        }

        boolean holdsThing(int c) {
            for (int n = 0; n < ground.things; n++) {
                if (cell[n] == c) {
                    return true;
                }
            }
            return false;
        }

        /** The THING that STANDS in a CELL (never two do), or NONE. Only what can STAND ever has LIFE. */
        int standingIn(int c) {
            for (int n = 0; n < ground.things; n++) {
                if (cell[n] == c && life[n] > 0) {
                    return n;
                }
            }
            return NONE;
        }

        boolean bars(int c) {
            return ground.map[c] == WALL || ground.map[c] == DOOR && opened[ground.link[c]] == 0;
        }

        boolean isShutDoor(int c) {
            return c >= 0 && ground.map[c] == DOOR && opened[ground.link[c]] == 0;
        }

        boolean isFree(int c) {
            return c >= 0 && !bars(c) && standingIn(c) < 0;
        }

        boolean carries(int p, int kind) {
            return load[p] >= 0 && ground.kinds[load[p]] == kind;
        }

        // -- sight

        /** Whether CELL a SEES CELL b within a reach. */
        boolean reaches(int a, int b, int reach) {
            int dx = ground.columnOf[b] - ground.columnOf[a];
            int dy = ground.rowOf[b] - ground.rowOf[a];
            int n = Math.max(Math.abs(dx), Math.abs(dy));
            if (n > reach) {
                return false;
            }
            for (int k = 1; k < n; k++) {
                int x = ground.columnOf[a] + Math.floorDiv(2 * k * dx + n, 2 * n);
                int y = ground.rowOf[a] + Math.floorDiv(2 * k * dy + n, 2 * n);
                if (bars(y * ground.columns + x)) {
                    return false;
                }
            }
            return true;
        }

        /** Whether player p's BODY lives and SEES a CELL. */
        boolean spots(int p, int c) {
            return life[p] > 0 && reaches(cell[p], c, carries(p, LAMP) ? 6 : 4);
        }

        int looksOf(int c) {
            return ground.map[c] == DOOR && opened[ground.link[c]] != 0 ? OPEN_DOOR : ground.map[c];
        }

        int tellOf(int p, int c) {
            if (!spots(p, c)) {
                return -1;
            }
            int told = looksOf(c);
            for (int n = 0; n < ground.things; n++) {
                if (ground.kinds[n] != TRAP && standsOrLiesIn(n, c)) {
                    told += 8;
                }
            }
            return told;
        }

        int letterTo(int p) {
            if (life[p] <= 0) {
                return 0;
            }
            int sum = 1;
            for (int c = 0; c < ground.cells; c++) {
                if (spots(p, c)) {
                    sum = 31 * sum + c + 128 * looksOf(c);
                    sum = addThingsIn(c, sum);
                }
            }
            sum = 31 * sum + life[p] + 8 * rest[p] + 64 * (load[p] + 1);
            return 31 * sum + known[p];
        }

        private int addThingsIn(int c, int sum) {
            for (int n = 0; n < ground.things; n++) {
                if (ground.kinds[n] != TRAP && standsOrLiesIn(n, c)) {
                    sum = 31 * sum + n + 32 * ground.kinds[n] + 512 * life[n];
                }
            }
            return sum;
        }

        /** The DIGEST. */
        int sumUp() {
            int sum = 7;
            for (int n = 0; n < ground.things; n++) {
                boolean isBody = n < ground.players;
                sum = 31 * sum + cell[n];
                sum = 31 * sum + life[n];
                sum = 31 * sum + (isBody ? face[n] : 0);
                sum = 31 * sum + (isBody ? rest[n] : 0);
                sum = 31 * sum + (isBody ? load[n] + 1 : 0);
                sum = 31 * sum + bearer[n] + 1;
            }
            for (int i = 0; i < ground.doors; i++) {
                sum = 31 * sum + opened[i];
            }
            for (int p = 0; p < ground.players; p++) {
                sum = 31 * sum + points[p];
                sum = 31 * sum + known[p];
            }
            return sum;
        }

        /** Whether an ACT could not come from an honest hand: a letter with it is CRAFTED. */
        boolean forbids(int p, int code) {
            switch (Bits.kindOf(code)) {
                case SHOT: return rest[p] > 0;
                case OPEN: return !isDoor(ground.nextTo(cell[p], Bits.directionOf(code)));
                case TAKE: return load[p] >= 0;
                case PUT: return load[p] < 0;
                case THROW: return !carries(p, STONE);
                default: return false;
            }
        }

        private boolean isDoor(int c) {
            return c >= 0 && ground.map[c] == DOOR;
        }

        // -- the chances of who can't foresee

        /** The CHANCE that a SHOT hits unseen, or NO_TRIAL. */
        int shotChance(int p, int d) {
            int unseen = rest[p] == 0 ? unseenInLine(p, d) : 0;
            int dark = unseen > 0 ? darkCells(p) : 0;
            if (dark <= 0) {
                return NO_TRIAL;
            }
            return ONE * Math.min(hiddenThings(p) * unseen, dark) / dark;
        }

        /** How many CELLS of the LINE are unseen; 0, too, if in one that is seen something STANDS. */
        private int unseenInLine(int p, int d) {
            int unseen = 0;
            int c = ground.nextTo(cell[p], d);
            for (int k = 0; k < SHOT_CELLS && c >= 0 && !bars(c); k++) {
                if (!spots(p, c)) {
                    unseen++;
                } else if (standingIn(c) >= 0) {
                    return 0;
                }
                c = ground.nextTo(c, d);
            }
            return unseen;
        }

        private int hiddenThings(int p) {
            int hidden = 0;
            for (int n = 0; n < ground.things; n++) {
                if (life[n] > 0 && !spots(p, cell[n])) {
                    hidden++;
                }
            }
            return hidden;
        }

        private int darkCells(int p) {
            int dark = 0;
            for (int c = 0; c < ground.cells; c++) {
                if (ground.map[c] != WALL && !spots(p, c)) {
                    dark++;
                }
            }
            return dark;
        }

        /** The CHANCE of a WORD for the DOOR next in d, or NO_TRIAL. */
        int wordChance(int p, int d) {
            int c = ground.nextTo(cell[p], d);
            return isShutDoor(c) && (known[p] >> ground.link[c] & 1) == 0 ? DOOR_CHANCE : NO_TRIAL;
        }

        /** Whether next in d is a shut DOOR with this WORD. */
        boolean isWordNext(int p, int d, int word) {
            int c = ground.nextTo(cell[p], d);
            return isShutDoor(c) && ground.words[ground.link[c]] == word;
        }

        // -- a tick

        void moveBodies(int t, Log log) {
            int players = ground.players;
            for (int i = 0; i < players; i++) {
                int p = (t + i) % players;
                int code = life[p] > 0 ? log.codeOf(t, p) : NO_ACT;
                int d = Bits.directionOf(code);
                int hit = 0;
                switch (Bits.kindOf(code)) {
                    case STEP:
                        face[p] = d;
                        enterIfFree(p, ground.nextTo(cell[p], d));
                        break;
                    case SHOT:
                        hit = shoot(p, d);
                        break;
                    case OPEN:
                        tryWord(p, d, Bits.wordOf(code));
                        break;
                    case TAKE:
                        pickUp(p);
                        break;
                    case PUT:
                        letGo(p, cell[p]);
                        break;
                    case THROW:
                        hit = hurl(p, d);
                        break;
                    default:
                        break;
                }
                log.noteHit(t, p, hit);
            }
        }

        /** Answers 1 more than the THING that is HIT, 0 if none is. */
        private int shoot(int p, int d) {
            if (rest[p] != 0) {
                return 0;
            }
            face[p] = d;
            rest[p] = 3;
            int c = ground.nextTo(cell[p], d);
            for (int k = 0; k < SHOT_CELLS && c >= 0 && !bars(c); k++) {
                int n = standingIn(c);
                if (n >= 0) {
                    hurt(n, 1);
                    return n + 1;
                }
                c = ground.nextTo(c, d);
            }
            return 0;
        }

        /** Answers 1 more than the THING that is HIT, 0 if none is. */
        private int hurl(int p, int d) {
            if (!carries(p, STONE)) {
                return 0;
            }
            face[p] = d;
            int landing = cell[p];
            int victim = NONE;
            int c = ground.nextTo(landing, d);
            for (int k = 0; k < THROW_CELLS && victim < 0 && c >= 0 && !bars(c); k++) {
                landing = c;
                victim = standingIn(c);
                c = ground.nextTo(c, d);
            }
            letGo(p, landing);
            if (victim >= 0) {
                hurt(victim, 1);
            }
            return victim + 1;
        }

        private void tryWord(int p, int d, int word) {
            face[p] = d;
            if (isWordNext(p, d, word)) {
                opened[ground.link[ground.nextTo(cell[p], d)]] = 1;
            }
        }

        private void pickUp(int p) {
            for (int n = 0; n < ground.things && load[p] < 0; n++) {
                if (ground.kinds[n] >= STONE && cell[n] == cell[p]) {
                    load[p] = n;
                    bearer[n] = p;
                    cell[n] = CARRIED;
                }
            }
        }

        private void letGo(int p, int c) {
            int n = load[p];
            if (n >= 0) {
                load[p] = NONE;
                bearer[n] = NONE;
                cell[n] = c;
            }
        }

        private void hurt(int n, int loss) {
            life[n] = life[n] > loss ? life[n] - loss : 0;
            if (life[n] == 0 && n < ground.players) {
                letGo(n, cell[n]);
            }
        }

        private void enterIfFree(int n, int c) {
            if (!isFree(c)) {
                return;
            }
            cell[n] = c;
            boolean isBody = n < ground.players;
            for (int i = 0; i < ground.things && life[n] > 0; i++) {
                if (cell[i] == c && ground.kinds[i] == POT && isBody) {
                    cell[i] = GONE;
                    life[n] = life[n] + 2 < FULL_LIFE ? life[n] + 2 : FULL_LIFE;
                } else if (cell[i] == c && ground.kinds[i] == TRAP) {
                    cell[i] = GONE;
                    hurt(n, 2);
                }
            }
        }

        void moveBeasts() {
            for (int n = ground.players; n < ground.things; n++) {
                int turns = ground.kinds[n] == WOLF ? 2 : 1;
                boolean hasBitten = false;
                for (int k = 0; k < turns && life[n] > 0 && !hasBitten; k++) {
                    int prey = nearestTo(n);
                    hasBitten = prey >= 0 && distance(n, prey) == 1;
                    if (hasBitten) {
                        hurt(prey, 1);
                    } else if (prey >= 0) {
                        enterIfFree(n, cellTowards(n, prey));
                    }
                }
            }
        }

        /** The nearest living BODY that a beast SEES, or NONE. */
        private int nearestTo(int n) {
            int nearest = NONE;
            for (int p = 0; p < ground.players; p++) {
                if (life[p] > 0 && reaches(cell[n], cell[p], 4)
                    && (nearest < 0 || distance(n, p) < distance(n, nearest))) {
                    nearest = p;
                }
            }
            return nearest;
        }

        private int columnsBetween(int n, int m) {
            return ground.columnOf[cell[m]] - ground.columnOf[cell[n]];
        }

        private int rowsBetween(int n, int m) {
            return ground.rowOf[cell[m]] - ground.rowOf[cell[n]];
        }

        private int distance(int n, int m) {
            return Math.abs(columnsBetween(n, m)) + Math.abs(rowsBetween(n, m));
        }

        /** The CELL that a beast goes to; NONE, or one that isn't free, if it can't go. */
        private int cellTowards(int n, int prey) {
            int dx = columnsBetween(n, prey);
            int dy = rowsBetween(n, prey);
            int sideways = dx == 0 ? NONE : ground.nextTo(cell[n], dx > 0 ? RIGHT : LEFT);
            int upOrDown = dy == 0 ? NONE : ground.nextTo(cell[n], dy > 0 ? DOWN : UP);
            if (Math.abs(dx) >= Math.abs(dy)) {
                return isFree(sideways) ? sideways : upOrDown;
            }
            return isFree(upOrDown) ? upOrDown : sideways;
        }

        void endTick() {
            for (int p = 0; p < ground.players; p++) {
                if (carries(p, CROWN)) {
                    points[p]++;
                }
                if (rest[p] > 0) {
                    rest[p]--;
                }
            }
            readPlates();
        }

        void readPlates() {
            for (int p = 0; p < ground.players; p++) {
                if (life[p] > 0 && ground.map[cell[p]] == PLATE) {
                    known[p] |= 1 << ground.link[cell[p]];
                }
            }
        }
    }

    /** The STATES of the newest ticks; a size is a power of two. */
    private static final class Ring {
        final State[] states;

        Ring(int size, Ground ground) {
            states = new State[size];
            for (int i = 0; i < size; i++) {
                states[i] = new State(ground);
            }
        }

        State stateAt(int t) {
            return states[t & states.length - 1];
        }

        void restart(State first) {
            states[0].copyFrom(first);
        }

        /** Works the ticks from .. to - 1, by the STATE at from. */
        void work(int from, int to, Log log) {
            for (int t = from; t < to; t++) {
                State state = stateAt(t + 1);
                state.copyFrom(stateAt(t));
                state.moveBodies(t, log);
                state.moveBeasts();
                state.endTick();
            }
        }
    }

    /** The ACTS of each tick and player, and the HITS as now worked. */
    private static final class Log {
        private final int[] codes = new int[MAX_TICKS * MAX_PLAYERS];
        private final byte[] hits = new byte[MAX_TICKS * MAX_PLAYERS];
        private final byte[] lateMarks = new byte[MAX_TICKS * MAX_PLAYERS];

        void wipe() {
            Arrays.fill(codes, NO_ACT);
            Arrays.fill(hits, (byte) 0);
            Arrays.fill(lateMarks, (byte) 0);
        }

        void noteAct(int t, int p, int code, boolean isLate) {
            codes[t * MAX_PLAYERS + p] = code;
            lateMarks[t * MAX_PLAYERS + p] = (byte) (isLate ? 1 : 0);
        }

        int codeOf(int t, int p) {
            return codes[t * MAX_PLAYERS + p];
        }

        boolean isLate(int t, int p) {
            return lateMarks[t * MAX_PLAYERS + p] != 0;
        }

        void noteHit(int t, int p, int hit) {
            hits[t * MAX_PLAYERS + p] = (byte) hit;
        }

        int hitOf(int t, int p) {
            return hits[t * MAX_PLAYERS + p];
        }
    }

    /** The GOINGS BACK and the HITS that they TOOK BACK. */
    private static final class Ledger {
        int goings;
        int ticks;
        int mostTicks;
        int takenBack;
        final int[] notes = new int[MAX_NOTED * 4];
        private final int[] hitsAhead = new int[MOST_LATE * MAX_PLAYERS];

        void wipe() {
            goings = 0;
            ticks = 0;
            mostTicks = 0;
            takenBack = 0;
        }

        int noted() {
            return takenBack < MAX_NOTED ? takenBack : MAX_NOTED;
        }

        void keepHits(Log log, int from, int now) {
            for (int t = from; t < now; t++) {
                for (int p = 0; p < MAX_PLAYERS; p++) {
                    hitsAhead[(t - from) * MAX_PLAYERS + p] = log.hitOf(t, p);
                }
            }
        }

        void noteGoingBack(Log log, int from, int now) {
            goings++;
            ticks += now - from;
            mostTicks = Math.max(mostTicks, now - from);
            for (int t = from; t < now; t++) {
                for (int p = 0; p < MAX_PLAYERS; p++) {
                    int was = hitsAhead[(t - from) * MAX_PLAYERS + p];
                    if (was != 0 && was != log.hitOf(t, p)) {
                        noteTakenBack(t, p, was - 1, now);
                    }
                }
            }
        }

        private void noteTakenBack(int t, int p, int thing, int now) {
            if (takenBack < MAX_NOTED) {
                notes[takenBack * 4] = t;
                notes[takenBack * 4 + 1] = p;
                notes[takenBack * 4 + 2] = thing;
                notes[takenBack * 4 + 3] = now;
            }
            takenBack++;
        }
    }

    /** The TRIALS of one player and kind, with the row T. */
    private static final class Odds {
        private final int[] row = new int[MAX_TRIALS + 1];
        int trials;
        int successes;
        /** One more than NOW when the player was TOLD, 0 until then. */
        int toldMark;

        void wipe() {
            Arrays.fill(row, 0);
            row[0] = ONE;
            trials = 0;
            successes = 0;
            toldMark = 0;
        }

        void addTrial(int chance, boolean isSuccess, int risk, int now) {
            if (chance == NO_TRIAL || trials >= MAX_TRIALS) {
                return;
            }
            trials++;
            successes += isSuccess ? 1 : 0;
            spread(chance);
            if (toldMark == 0 && tail() <= risk) {
                toldMark = now + 1;
            }
        }

        private void spread(int chance) {
            long rest = ONE - chance;
            // downwards, for T(k - 1) is wanted as it was
            for (int k = trials; k > 0; k--) {
                row[k] = (int) (row[k] * rest + (long) row[k - 1] * chance >> 20);
            }
            row[0] = (int) (row[0] * rest >> 20);
        }

        int tail() {
            int sum = 0;
            for (int k = successes; k <= MAX_TRIALS; k++) {
                sum += row[k];
            }
            return sum;
        }
    }

    /** What THE WATCH knows of a player. */
    private static final class Suspect {
        final Odds foreseeing = new Odds();
        final Odds machine = new Odds();
        int timelyHits;
        int lateHits;
        private int lastTick;
        private int lastGap;

        void wipe() {
            foreseeing.wipe();
            machine.wipe();
            timelyHits = 0;
            lateHits = 0;
            lastTick = NONE;
            lastGap = NONE;
        }

        void countHit(boolean isLate) {
            if (isLate) {
                lateHits++;
            } else {
                timelyHits++;
            }
        }

        void lookAtGap(int t, int risk, int now) {
            if (lastTick >= 0) {
                int gap = t - lastTick;
                if (lastGap >= 0) {
                    machine.addTrial(GAP_CHANCE, gap == lastGap, risk, now);
                }
                lastGap = gap;
            }
            lastTick = t;
        }
    }

    /** One of the TAPES: its rows stand ready in every sort, so that no call makes new ones. */
    private static final class Tape {
        /** 0 nothing, BYTES .. LONGS a row, VIEW. */
        int sort;
        /** How many elements the row has, or CELLS the world of the VIEW. */
        int size;
        int toldCells;
        final long[] row = new long[MAX_ROW];
        final int[] tidings = new int[MAX_CELLS];

        void holdRow(int newSort, int n) {
            sort = newSort;
            size = n;
            Arrays.fill(row, 0L);
        }

        void holdView(State state, int p) {
            sort = VIEW;
            size = state.ground.cells;
            toldCells = 0;
            for (int c = 0; c < size; c++) {
                tidings[c] = state.tellOf(p, c);
                if (tidings[c] >= 0) {
                    toldCells++;
                }
            }
        }

        boolean isRow() {
            return sort >= BYTES && sort <= LONGS;
        }

        boolean hasPlace(int i) {
            return i >= 0 && i < size;
        }

        boolean hasPlaces(int i, int n) {
            return i >= 0 && n >= 0 && i <= size && n <= size - i;
        }

        long narrowed(long v) {
            switch (sort) {
                case BYTES: return (byte) v;
                case SHORTS: return (short) v;
                case INTS: return (int) v;
                default: return v;
            }
        }

        /** The failure of a VIEW; one that tells of no CELL has none, and nothing is thrown. */
        void throwFailure() {
            if (toldCells > 0) {
                throw new IllegalStateException("the failure of a view");
            }
        }
    }
}
