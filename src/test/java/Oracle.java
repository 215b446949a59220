import java.util.ArrayList;
import java.util.Arrays;
import java.util.BitSet;
import java.util.HashMap;
import java.util.List;
import java.util.Map;

/**
 * The document told a second time, as slowly and plainly as can be, with another way of holding everything:
 * objects that are copied whole, sets, maps, and all STATES from tick 0 on. OracleTest sets it against RunJudge.
 */
final class Oracle {
    static final class Thing {
        int number, kind, cell, life, face, rest;
        int carries = -1, carriedBy = -1;
        boolean gone;

        Thing twin() {
            Thing t = new Thing();
            t.number = number; t.kind = kind; t.cell = cell; t.life = life; t.face = face; t.rest = rest;
            t.carries = carries; t.carriedBy = carriedBy; t.gone = gone;
            return t;
        }

        boolean stands() { return (kind == 0 || kind == 1 || kind == 2) && life > 0; }
        boolean lies() { return kind >= 3 && !gone && carriedBy == -1; }
        int shownCell() { return gone ? -1 : carriedBy >= 0 ? -2 : cell; }
    }

    static final class World {
        List<Thing> things = new ArrayList<>();
        BitSet open = new BitSet();
        int[] points = new int[4];
        BitSet[] known = {new BitSet(), new BitSet(), new BitSet(), new BitSet()};
        /** Of the tick that led here: player to THING. */
        Map<Integer, Integer> hits = new HashMap<>();

        World twin() {
            World w = new World();
            for (Thing t : things) w.things.add(t.twin());
            w.open = (BitSet) open.clone();
            w.points = points.clone();
            for (int p = 0; p < 4; p++) w.known[p] = (BitSet) known[p].clone();
            return w;
        }
    }

    static final class Act {
        int kind, d, w;
        boolean behind;
    }

    static final class Trials {
        long[] t = new long[70];
        int many, good, told;
        { t[0] = 1 << 20; }

        long tail() {
            long s = 0;
            for (int k = good; k < 70; k++) s += t[k];
            return s;
        }
    }

    static final class Reel {
        int sort;
        long[] row;
        int[] view;
    }

    int columns, rows, players, now, lateTicks, risk, takenLetters, refusedLetters, hostRefusals;
    int[] map;
    Map<Integer, Integer> doorIn, plateOf;
    List<Integer> words, doorCells;
    List<World> worlds;
    List<Map<Integer, Act>> acts;
    int[] seq;
    List<int[]> takenBack;
    List<Integer> goings;
    Trials[][] trials;
    List<List<Integer>> looked;
    int[][] fairHits;
    final Reel[] reels = new Reel[6];

    Oracle() {
        for (int d = 0; d < 6; d++) reels[d] = new Reel();
        begin(7, 7, 2);
    }

    int begin(int w, int h, int n) {
        if (w < 3 || w > 10 || h < 3 || h > 10 || n < 1 || n > 4) return -1;
        columns = w; rows = h; players = n; now = 0; lateTicks = 4; risk = 1048;
        takenLetters = 0; refusedLetters = 0; hostRefusals = 0;
        map = new int[w * h];
        doorIn = new HashMap<>(); plateOf = new HashMap<>();
        words = new ArrayList<>(); doorCells = new ArrayList<>();
        acts = new ArrayList<>();
        for (int t = 0; t < 500; t++) acts.add(new HashMap<>());
        seq = new int[4];
        takenBack = new ArrayList<>(); goings = new ArrayList<>();
        trials = new Trials[4][2];
        looked = new ArrayList<>();
        fairHits = new int[4][2];
        World first = new World();
        int[] starts = {0, w * h - 1, w - 1, (h - 1) * w};
        for (int p = 0; p < 4; p++) {
            trials[p][0] = new Trials();
            trials[p][1] = new Trials();
            looked.add(new ArrayList<>());
            if (p < n) add(first, 0, starts[p]);
        }
        worlds = new ArrayList<>(List.of(first));
        return w * h;
    }

    private void add(World world, int kind, int cell) {
        Thing t = new Thing();
        t.number = world.things.size();
        t.kind = kind;
        t.cell = cell;
        t.life = kind == 0 ? 5 : kind == 1 ? 2 : kind == 2 ? 3 : 0;
        t.face = kind == 0 ? 1 : 0;
        world.things.add(t);
    }

    private boolean cellOk(int c) { return c >= 0 && c < columns * rows; }
    boolean playerOk(int p) { return p >= 0 && p < players; }

    private boolean started() {
        for (Map<Integer, Act> m : acts) if (!m.isEmpty()) return true;
        return now > 0;
    }

    private boolean occupied(int c) {
        for (Thing t : worlds.get(0).things) if (t.shownCell() == c) return true;
        return false;
    }

    int wall(int c) {
        if (!cellOk(c)) return -1;
        if (started()) return -2;
        if (map[c] > 1 || occupied(c)) return -3;
        return map[c] ^= 1;
    }

    int door(int c, int word) {
        if (!cellOk(c) || word < 0 || word > 15) return -1;
        if (started()) return -2;
        if (map[c] != 0 || occupied(c)) return -3;
        if (words.size() == 8) return -4;
        map[c] = 2;
        doorIn.put(c, words.size());
        words.add(word);
        doorCells.add(c);
        return words.size() - 1;
    }

    int plate(int c, int door) {
        if (!cellOk(c) || door < 0 || door >= words.size()) return -1;
        if (started()) return -2;
        if (map[c] != 0) return -3;
        map[c] = 3;
        plateOf.put(c, door);
        learn(worlds.get(0));
        return 3;
    }

    int place(int kind, int c) {
        if (kind < 1 || kind > 7 || !cellOk(c)) return -1;
        if (started()) return -2;
        World w = worlds.get(0);
        if (map[c] == 1 || map[c] == 2 || kind <= 2 && standing(w, c) != null) return -3;
        if (w.things.size() == 16) return -4;
        add(w, kind, c);
        return w.things.size() - 1;
    }

    int late(int ticks) {
        if (ticks < 0 || ticks > 8) return -1;
        if (started()) return -2;
        int was = lateTicks;
        lateTicks = ticks;
        return was;
    }

    int risk(int parts) {
        if (parts < 0 || parts > 1048576) return -1;
        int was = risk;
        risk = parts;
        return was;
    }

    long pack(int kind, int d, int w, int tick, int s) {
        long k = kind & 15, e = d & 3, x = w & 15, t = tick & 65535, q = s & 255;
        long sum = (k + 3 * e + 5 * x + 7 * t + 11 * q) % 256;
        return k + 16 * e + 64 * x + 1024 * t + (1L << 26) * q + (1L << 34) * sum;
    }

    // ---- geometry

    private boolean bars(World w, int c) { return map[c] == 1 || map[c] == 2 && !w.open.get(doorIn.get(c)); }

    int next(int c, int d) {
        int x = c % columns + new int[] {0, 1, 0, -1}[d];
        int y = c / columns + new int[] {-1, 0, 1, 0}[d];
        return x < 0 || y < 0 || x >= columns || y >= rows ? -1 : y * columns + x;
    }

    private Thing standing(World w, int c) {
        for (Thing t : w.things) if (t.stands() && t.cell == c) return t;
        return null;
    }

    private boolean cellSees(World w, int a, int b, int r) {
        int xa = a % columns, ya = a / columns;
        int dx = b % columns - xa, dy = b / columns - ya;
        if (dx > r || dx < -r || dy > r || dy < -r) return false;
        int n = Math.max(Math.abs(dx), Math.abs(dy));
        for (int k = 1; k <= n - 1; k++) {
            int x = xa + (int) Math.floor((2.0 * k * dx + n) / (2.0 * n));
            int y = ya + (int) Math.floor((2.0 * k * dy + n) / (2.0 * n));
            if (bars(w, y * columns + x)) return false;
        }
        return true;
    }

    private boolean bodySees(World w, int p, int c) {
        Thing b = w.things.get(p);
        int r = b.carries >= 0 && w.things.get(b.carries).kind == 6 ? 6 : 4;
        return cellSees(w, b.cell, c, r);
    }

    private List<Integer> line(World w, int from, int d, int most) {
        List<Integer> cells = new ArrayList<>();
        int c = next(from, d);
        while (c >= 0 && !bars(w, c) && cells.size() < most) {
            cells.add(c);
            c = next(c, d);
        }
        return cells;
    }

    // ---- a tick

    private World after(World before, int t) {
        World w = before.twin();
        for (int i = 0; i < players; i++) {
            int p = (t + i) % players;
            Act a = acts.get(t).get(p);
            if (w.things.get(p).life > 0 && a != null) perform(w, p, a);
        }
        for (Thing b : w.things) {
            if (b.kind == 1 && b.life > 0) hunt(w, b);
            if (b.kind == 2 && b.life > 0 && !hunt(w, b) && b.life > 0) hunt(w, b);
        }
        for (Thing c : w.things) if (c.kind == 7 && c.carriedBy >= 0) w.points[c.carriedBy]++;
        for (Thing b : w.things) if (b.rest > 0) b.rest--;
        learn(w);
        return w;
    }

    private void learn(World w) {
        for (int p = 0; p < players; p++) {
            Thing b = w.things.get(p);
            if (b.life > 0 && plateOf.containsKey(b.cell)) w.known[p].set(plateOf.get(b.cell));
        }
    }

    private void perform(World w, int p, Act a) {
        Thing me = w.things.get(p);
        Thing held = me.carries < 0 ? null : w.things.get(me.carries);
        int to = next(me.cell, a.d);
        if (a.kind == 1) {
            me.face = a.d;
            if (to >= 0 && !bars(w, to) && standing(w, to) == null) enter(w, me, to);
        } else if (a.kind == 2 && me.rest == 0) {
            me.face = a.d;
            me.rest = 3;
            for (int c : line(w, me.cell, a.d, 7)) {
                if (standing(w, c) != null) {
                    strike(w, p, standing(w, c));
                    break;
                }
            }
        } else if (a.kind == 3) {
            me.face = a.d;
            if (to >= 0 && doorIn.containsKey(to) && words.get(doorIn.get(to)) == a.w) w.open.set(doorIn.get(to));
        } else if (a.kind == 4 && held == null) {
            for (int n = 15; n >= 0; n--) {
                if (n < w.things.size() && w.things.get(n).kind >= 5 && w.things.get(n).lies() && w.things.get(n).cell == me.cell) me.carries = n;
            }
            if (me.carries >= 0) w.things.get(me.carries).carriedBy = p;
        } else if (a.kind == 5) {
            drop(w, me, me.cell);
        } else if (a.kind == 6 && held != null && held.kind == 5) {
            me.face = a.d;
            int end = me.cell;
            Thing victim = null;
            for (int c : line(w, me.cell, a.d, 4)) {
                end = c;
                victim = standing(w, c);
                if (victim != null) break;
            }
            drop(w, me, end);
            if (victim != null) strike(w, p, victim);
        }
    }

    private void drop(World w, Thing body, int c) {
        if (body.kind != 0 || body.carries < 0) return;
        Thing held = w.things.get(body.carries);
        held.cell = c;
        held.carriedBy = -1;
        body.carries = -1;
    }

    private void strike(World w, int p, Thing victim) {
        w.hits.put(p, victim.number);
        lose(w, victim, 1);
    }

    private void lose(World w, Thing t, int much) {
        t.life = Math.max(0, t.life - much);
        if (t.life == 0) drop(w, t, t.cell);
    }

    private void enter(World w, Thing who, int c) {
        who.cell = c;
        for (Thing t : w.things) {
            if (who.life == 0 || !t.lies() || t.cell != c) continue;
            if (t.kind == 3 && who.kind == 0) {
                who.life = Math.min(5, who.life + 2);
                t.gone = true;
            }
            if (t.kind == 4) {
                t.gone = true;
                lose(w, who, 2);
            }
        }
    }

    private int colGap(Thing a, Thing b) { return b.cell % columns - a.cell % columns; }
    private int rowGap(Thing a, Thing b) { return b.cell / columns - a.cell / columns; }

    /** Whether it was a BITE. */
    private boolean hunt(World w, Thing beast) {
        Thing best = null;
        int far = 1000;
        for (int p = 0; p < players; p++) {
            Thing b = w.things.get(p);
            int dist = Math.abs(colGap(beast, b)) + Math.abs(rowGap(beast, b));
            if (b.life > 0 && cellSees(w, beast.cell, b.cell, 4) && dist < far) {
                best = b;
                far = dist;
            }
        }
        if (best == null) return false;
        if (far == 1) {
            lose(w, best, 1);
            return true;
        }
        int dx = colGap(beast, best), dy = rowGap(beast, best);
        List<Integer> ways = new ArrayList<>();
        int byColumns = beast.cell + Integer.signum(dx), byRows = beast.cell + columns * Integer.signum(dy);
        if (Math.abs(dx) >= Math.abs(dy)) {
            ways.add(byColumns);
            if (dy != 0) ways.add(byRows);
        } else {
            ways.add(byRows);
            if (dx != 0) ways.add(byColumns);
        }
        for (int c : ways) {
            if (!bars(w, c) && standing(w, c) == null) {
                enter(w, beast, c);
                return false;
            }
        }
        return false;
    }

    // ---- the host

    int feed(int p, long bits) {
        int r = feedInner(p, bits);
        if (r < 0) refusedLetters++;
        else takenLetters++;
        return r;
    }

    private int feedInner(int p, long bits) {
        if (!playerOk(p)) return -1;
        int kind = (int) (bits & 15), d = (int) (bits >> 4 & 3), w = (int) (bits >> 6 & 15);
        int t = (int) (bits >> 10 & 65535), q = (int) (bits >> 26 & 255);
        if (bits != pack(kind, d, w, t, q)) return -5;
        if (kind > 6 || w != 0 && kind != 3 || d != 0 && (kind == 0 || kind == 4 || kind == 5)) return -3;
        if (q != seq[p] % 256) return -6;
        if (t < now - lateTicks) return -7;
        if (t > now + 2 || t > 499) return -8;
        if (acts.get(t).containsKey(p)) return -9;
        World world = worlds.get(Math.min(t, now));
        Thing me = world.things.get(p);
        if (me.life == 0) return -10;
        if (t <= now) {
            int to = next(me.cell, d);
            boolean stone = me.carries >= 0 && world.things.get(me.carries).kind == 5;
            if (kind == 2 && me.rest > 0 || kind == 3 && (to < 0 || map[to] != 2) || kind == 4 && me.carries >= 0
                || kind == 5 && me.carries < 0 || kind == 6 && !stone) return -16;
        }
        Act a = new Act();
        a.kind = kind; a.d = d; a.w = w; a.behind = t < now;
        acts.get(t).put(p, a);
        seq[p]++;
        if (t >= now) return 0;
        List<World> old = new ArrayList<>(worlds);
        while (worlds.size() > t + 1) worlds.remove(worlds.size() - 1);
        for (int s = t; s < now; s++) worlds.add(after(worlds.get(s), s));
        for (int s = t; s < now; s++) {
            for (int x = 0; x < players; x++) {
                Integer was = old.get(s + 1).hits.get(x), is = worlds.get(s + 1).hits.get(x);
                if (was != null && !was.equals(is)) takenBack.add(new int[] {s, x, was, now});
            }
        }
        goings.add(now - t);
        return now - t;
    }

    int step() {
        if (now == 500) return -4;
        worlds.add(after(worlds.get(now), now));
        now++;
        int t = now - lateTicks - 1;
        if (t >= 0) for (int p = 0; p < players; p++) look(t, p);
        return now;
    }

    private void look(int t, int p) {
        World w = worlds.get(t);
        Act a = acts.get(t).get(p);
        boolean hit = worlds.get(t + 1).hits.containsKey(p);
        if (hit) fairHits[p][a.behind ? 1 : 0]++;
        Thing me = w.things.get(p);
        if (me.life == 0 || a == null || a.kind == 0) return;
        if (a.kind == 2 && me.rest == 0) {
            int c = 0;
            boolean seen = false;
            for (int x : line(w, me.cell, a.d, 7)) {
                if (!bodySees(w, p, x)) c++;
                else if (standing(w, x) != null) seen = true;
            }
            if (!seen && c > 0) {
                long things = 0, dark = 0;
                for (Thing x : w.things) if (x.stands() && !bodySees(w, p, x.cell)) things++;
                for (int x = 0; x < map.length; x++) if (map[x] != 1 && !bodySees(w, p, x)) dark++;
                trial(trials[p][0], (1L << 20) * Math.min(things * c, dark) / dark, hit);
            }
        }
        if (a.kind == 3) {
            Integer door = doorIn.get(next(me.cell, a.d));
            if (door != null && !w.open.get(door) && !w.known[p].get(door)) trial(trials[p][0], 65536, words.get(door) == a.w);
        }
        List<Integer> l = looked.get(p);
        l.add(t);
        int n = l.size();
        if (n >= 3) trial(trials[p][1], 262144, l.get(n - 1) - l.get(n - 2) == l.get(n - 2) - l.get(n - 3));
    }

    private void trial(Trials x, long chance, boolean good) {
        if (x.many == 64) return;
        x.many++;
        if (good) x.good++;
        long[] n = new long[70];
        for (int k = 0; k < 70; k++) n[k] = (x.t[k] * (1048576 - chance) + (k > 0 ? x.t[k - 1] : 0) * chance) / 1048576;
        x.t = n;
        if (x.told == 0 && x.tail() <= risk) x.told = now + 1;
    }

    // ---- questions

    int body(int p, int what) {
        if (!playerOk(p) || what < 0 || what > 6) return -1;
        Thing b = worlds.get(now).things.get(p);
        return new int[] {b.cell, b.life, b.face, b.rest, b.carries, worlds.get(now).points[p], knownSum(worlds.get(now), p)}[what];
    }

    private int knownSum(World w, int p) {
        int s = 0;
        for (int i = 0; i < 8; i++) if (w.known[p].get(i)) s += 1 << i;
        return s;
    }

    int thing(int n, int what) {
        if (n < 0 || n >= worlds.get(now).things.size() || what < 0 || what > 3) return -1;
        Thing t = worlds.get(now).things.get(n);
        return new int[] {t.kind, t.shownCell(), t.life, t.carriedBy}[what];
    }

    int open(int door) { return door < 0 || door >= words.size() ? -1 : worlds.get(now).open.get(door) ? 1 : 0; }

    int sees(int p, int c) {
        if (!playerOk(p) || !cellOk(c)) return -1;
        return worlds.get(now).things.get(p).life > 0 && bodySees(worlds.get(now), p, c) ? 1 : 0;
    }

    private int look4(World w, int c) { return map[c] == 2 && w.open.get(doorIn.get(c)) ? 4 : map[c]; }

    private int tells(World w, int p, int c) {
        if (w.things.get(p).life == 0 || !bodySees(w, p, c)) return -1;
        int s = look4(w, c);
        for (Thing t : w.things) if ((t.stands() || t.lies() && t.kind != 4) && t.cell == c) s += 8;
        return s;
    }

    int told(int p, int c) { return !playerOk(p) || !cellOk(c) ? -1 : tells(worlds.get(now), p, c); }

    int letter(int p, int t) {
        if (!playerOk(p) || t < 0 || t < now - 8 || t > now) return -1;
        World w = worlds.get(t);
        Thing me = w.things.get(p);
        if (me.life == 0) return 0;
        List<Integer> xs = new ArrayList<>();
        for (int c = 0; c < map.length; c++) {
            if (!bodySees(w, p, c)) continue;
            xs.add(c + 128 * look4(w, c));
            for (Thing x : w.things) {
                if ((x.stands() || x.lies()) && x.kind != 4 && x.cell == c) xs.add(x.number + 32 * x.kind + 512 * x.life);
            }
        }
        xs.add(me.life + 8 * me.rest + 64 * (me.carries + 1));
        xs.add(knownSum(w, p));
        int l = 1;
        for (int x : xs) l = 31 * l + x;
        return l;
    }

    private int digestOf(World w) {
        List<Integer> xs = new ArrayList<>();
        for (Thing t : w.things) xs.addAll(Arrays.asList(t.shownCell(), t.life, t.face, t.rest, t.carries + 1, t.carriedBy + 1));
        for (int i = 0; i < words.size(); i++) xs.add(w.open.get(i) ? 1 : 0);
        for (int p = 0; p < players; p++) {
            xs.add(w.points[p]);
            xs.add(knownSum(w, p));
        }
        int d = 7;
        for (int x : xs) d = 31 * d + x;
        return d;
    }

    int digest(int t) { return t < 0 || t < now - 8 || t > now ? -1 : digestOf(worlds.get(t)); }

    int replay(int t) {
        if (t < 0 || t > now) return -1;
        World w = worlds.get(0);
        for (int s = 0; s < t; s++) w = after(w, s);
        return digestOf(w);
    }

    int fall() {
        int was = digestOf(worlds.get(now));
        worlds = new ArrayList<>(List.of(worlds.get(0)));
        for (int s = 0; s < now; s++) worlds.add(after(worlds.get(s), s));
        return was == digestOf(worlds.get(now)) ? 1 : 0;
    }

    int act(int t, int p) {
        if (t < 0 || t > 499 || !playerOk(p)) return -1;
        Act a = acts.get(t).get(p);
        return a == null ? 4096 : a.kind + 16 * a.d + 64 * a.w;
    }

    int hit(int t, int p) {
        if (t < 0 || t >= now || !playerOk(p)) return -1;
        return worlds.get(t + 1).hits.getOrDefault(p, -1) + 1;
    }

    int taken(int i, int what) {
        return i < 0 || i >= takenBack.size() || i >= 64 || what < 0 || what > 3 ? -1 : takenBack.get(i)[what];
    }

    int back(int what) {
        int sum = 0, most = 0;
        for (int g : goings) {
            sum += g;
            most = Math.max(most, g);
        }
        return what < 0 || what > 3 ? -1 : new int[] {goings.size(), sum, most, takenBack.size()}[what];
    }

    int watch(int p, int kind, int what) {
        if (!playerOk(p) || kind < 0 || kind > 1 || what < 0 || what > 3) return -1;
        Trials x = trials[p][kind];
        return new int[] {x.many, x.good, (int) x.tail(), x.told}[what];
    }

    int fair(int p, int what) { return !playerOk(p) || what < 0 || what > 1 ? -1 : fairHits[p][what]; }

    int count(int what) {
        int[] all = {columns, rows, players, worlds.get(0).things.size(), words.size(), now, lateTicks, risk,
            takenLetters, refusedLetters, hostRefusals};
        return what < 0 || what > 10 ? -1 : all[what];
    }

    // ---- tapes

    private boolean tapeOk(int d) { return d >= 0 && d <= 5; }

    private int refused(int r) {
        hostRefusals++;
        return r;
    }

    int tape(int d, int sort, int n) {
        if (!tapeOk(d) || sort < 1 || sort > 4 || n > 80) return -1;
        if (n < 0) return refused(-14);
        reels[d] = new Reel();
        reels[d].sort = sort;
        reels[d].row = new long[n];
        return n;
    }

    int view(int d, int p) {
        if (!tapeOk(d) || !playerOk(p)) return -1;
        reels[d] = new Reel();
        reels[d].sort = 5;
        reels[d].view = new int[map.length];
        for (int c = 0; c < map.length; c++) reels[d].view[c] = tells(worlds.get(now), p, c);
        return tellsOf(reels[d]);
    }

    private int tellsOf(Reel r) {
        int n = 0;
        for (int v : r.view) if (v != -1) n++;
        return n;
    }

    int clear(int d) {
        if (!tapeOk(d)) return -1;
        int was = reels[d].sort;
        reels[d] = new Reel();
        return was;
    }

    int put(int d, int i, long v) {
        if (!tapeOk(d)) return -1;
        Reel r = reels[d];
        if (r.sort == 0) return refused(-11);
        if (r.sort == 5) return refused(-12);
        if (i < 0 || i >= r.row.length) return refused(-13);
        int bits = new int[] {0, 8, 16, 32, 64}[r.sort];
        r.row[i] = v << 64 - bits >> 64 - bits;
        return 1;
    }

    long at(int d, int i) {
        if (!tapeOk(d)) throw new IllegalArgumentException();
        Reel r = reels[d];
        if (r.row == null || i < 0 || i >= r.row.length) throw new IllegalStateException();
        return r.row[i];
    }

    int copy(int d, int i, int e, int j, int n) {
        if (!tapeOk(d) || !tapeOk(e)) return -1;
        Reel a = reels[d], b = reels[e];
        if (a.sort == 0 || b.sort == 0) return refused(-11);
        if (a.sort == 5 || b.sort == 5 || a.sort != b.sort) return refused(-12);
        if (n < 0 || i < 0 || j < 0 || (long) i + n > a.row.length || (long) j + n > b.row.length) return refused(-13);
        long[] were = a.row.clone();
        for (int k = 0; k < n; k++) b.row[j + k] = were[i + k];
        return n;
    }

    int play(int d, int i, int n, int p) {
        if (!tapeOk(d) || !playerOk(p) || n < 0 || n > 80) return -1;
        Reel r = reels[d];
        if (r.sort == 0) return refused(-11);
        if (r.sort != 4) return refused(-12);
        int many = 0;
        while (many < n) {
            long x = (long) i + many;
            if (x < 0 || x >= r.row.length) return refused(-13);
            if (feed(p, r.row[(int) x]) < 0) break;
            many++;
        }
        return many;
    }

    int kept(int d, int c) {
        if (!tapeOk(d)) return -1;
        Reel r = reels[d];
        if (r.sort == 0) return refused(-11);
        if (r.sort != 5) return refused(-12);
        if (c < 0 || c >= r.view.length) return refused(-13);
        return r.view[c];
    }

    int toss(int d) {
        if (!tapeOk(d)) return -1;
        Reel r = reels[d];
        if (r.sort == 0) return refused(-11);
        if (r.sort != 5) return refused(-12);
        return tellsOf(r) == 0 ? refused(-15) : tellsOf(r);
    }
}
