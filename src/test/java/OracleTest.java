import java.lang.reflect.InvocationTargetException;
import java.lang.reflect.Method;
import java.util.HashMap;
import java.util.Map;
import java.util.Random;
import java.util.TreeMap;

/** Random runs of calls, each of at most 512, on RunJudge and on the Oracle: every answer must be the same. */
public final class OracleTest {
    private static final Map<String, Method> REAL = new HashMap<>();
    private static final Map<String, Method> PLAIN = new HashMap<>();
    /** How often each telling answer was seen, so that a driver that has gone blind is noticed. */
    private static final Map<String, Integer> SEEN = new TreeMap<>();
    private static final String[] WANTED = {
        "begin -1", "wall -1", "wall -2", "wall -3", "wall 0", "wall 1", "door -1", "door -2", "door -3", "door -4",
        "plate -1", "plate -2", "plate -3", "place -1", "place -2", "place -3", "place -4", "late -1", "late -2",
        "risk -1", "feed -1", "feed -3", "feed -5", "feed -6", "feed -7", "feed -8", "feed -9", "feed -10", "feed -16",
        "feed 0", "feed 1", "feed 8", "step -4", "step 500", "open 0", "open 1", "fall 1", "taken -1", "back -1",
        "watch -1", "fair -1", "tape -1", "tape -14", "view -1", "view 0", "clear -1", "put -1", "put -11", "put -12",
        "put -13", "put 1", "at IllegalArgumentException", "at IllegalStateException", "copy -1", "copy -11",
        "copy -12", "copy -13", "play -1", "play -11", "play -12", "play -13", "play 0", "play 2", "kept -1",
        "kept -11", "kept -12", "kept -13", "toss -1", "toss -11", "toss -12", "toss -15", "count -1",
        "a hit taken back", "more than 64 taken back", "64 trials of foreseeing", "64 trials of machine",
        "told of foreseeing", "told of machine", "a fair hit late", "a fair hit in time", "known door", "points",
        "a dead body", "a letter 0"};

    private final Random dice;
    private final RunJudge real = new RunJudge();
    private final Oracle plain = new Oracle();
    private final StringBuilder tale = new StringBuilder();
    private int calls;
    private boolean wrong;

    private OracleTest(long seed) {
        dice = new Random(seed);
    }

    public static void main(String[] args) {
        for (Method m : RunJudge.class.getDeclaredMethods()) REAL.put(m.getName(), m);
        for (Method m : Oracle.class.getDeclaredMethods()) {
            m.setAccessible(true);
            PLAIN.put(m.getName(), m);
        }
        int runs = args.length > 0 ? Integer.parseInt(args[0]) : 6000;
        long from = args.length > 1 ? Long.parseLong(args[1]) : 1;
        for (long seed = from; seed < from + runs; seed++) {
            OracleTest run = new OracleTest(seed);
            run.play((int) (seed % 8));
            if (run.wrong) {
                System.out.println("seed " + seed + ":\n" + run.tale);
                System.exit(1);
            }
        }
        int blind = 0;
        for (String w : WANTED) {
            if (!SEEN.containsKey(w)) {
                System.out.println("the driver never saw: " + w);
                blind++;
            }
        }
        System.out.println(runs + " random runs agree with the oracle");
        if (blind > 0) System.exit(1);
    }

    private Object call(String name, Object... args) {
        if (wrong || calls >= 512) return 0;
        calls++;
        Object want = ask(PLAIN.get(name), plain, args);
        Object got = ask(REAL.get(name), real, args);
        tale.append(name).append(java.util.Arrays.toString(args)).append(" ").append(got).append('\n');
        if (!want.equals(got)) {
            wrong = true;
            tale.append("due is ").append(want).append('\n');
        }
        note(name + " " + want);
        return want;
    }

    private static void note(String what) {
        SEEN.merge(what, 1, Integer::sum);
    }

    private static Object ask(Method m, Object on, Object[] args) {
        try {
            return m.invoke(on, args);
        } catch (InvocationTargetException e) {
            return e.getCause().getClass().getSimpleName();
        } catch (IllegalAccessException e) {
            throw new IllegalStateException(e);
        }
    }

    private int any(int from, int to) {
        return from + dice.nextInt(to - from + 1);
    }

    private boolean rarely(int of) {
        return dice.nextInt(of) == 0;
    }

    /** A number from .. to, now and then one outside or at the far end of what an int holds. */
    private int about(int from, int to) {
        if (rarely(25)) return rarely(3) ? (dice.nextBoolean() ? Integer.MAX_VALUE : Integer.MIN_VALUE) : dice.nextBoolean() ? from - 1 : to + 1;
        return any(from, to);
    }

    private int cell() {
        return about(0, plain.map.length - 1);
    }

    private int player() {
        return about(0, plain.players - 1);
    }

    private void play(int profile) {
        if (profile == 6) guess();
        else if (profile == 7) duel();
        else setUp(profile);
        int stepOf = profile == 0 ? 100 : profile == 1 ? 55 : profile == 2 ? 45 : profile == 5 ? 40 : 25;
        int feedOf = profile == 0 ? 0 : profile == 1 ? 45 : profile == 2 ? 40 : profile == 5 ? 50 : 45;
        if (profile == 0) {
            for (int i = 0; i < 495 && !wrong; i++) call("step");
            if (rarely(2)) for (int i = 0; i < 5; i++) call("step");
            for (int i = 0; i < 4; i++) feedOne();
            call("step");
        }
        while (calls < 512 && !wrong) {
            int r = any(0, 99);
            if (r < stepOf) call("step");
            else if (r < stepOf + feedOf) feedOne();
            else if (rarely(2)) question();
            else if (rarely(2)) tapeWork();
            else if (rarely(6)) setUpCall(profile);
            else question();
        }
        noteEnd();
    }

    /** OPENS with words that are mostly wrong, tick by tick: TRIALS up to 64 and beyond. */
    private void guess() {
        call("begin", 3, any(3, 5), any(1, 2));
        call("late", any(0, 8));
        call("door", 1, 5);
        for (int i = any(0, 80); i > 0; i--) {
            call("feed", 0, plain.pack(3, 1, rarely(40) ? 5 : any(6, 15), plain.now, plain.seq[0]));
            call("step");
        }
    }

    /** SHOTS that hit, and late STEPS that take these HITS back. */
    private void duel() {
        call("begin", 3, 3, 2);
        send(1, 1, 0, 0);
        send(1, 1, 0, 1);
        call("step");
        call("step");
        call("step");
        for (int i = any(0, 80); i > 0; i--) {
            send(1, 2, 3, plain.now);
            call("step");
            if (!rarely(40)) send(0, 1, 2, plain.now - 2);
            send(0, 1, 0, plain.now);
            call("step");
            call("step");
        }
    }

    private void send(int p, int kind, int d, int t) {
        call("feed", p, plain.pack(kind, d, 0, t, plain.seq[p]));
    }

    private void setUp(int profile) {
        if (rarely(10)) return;
        boolean small = profile == 3 || profile == 4;
        call("begin", small ? any(3, 5) : about(3, 10), small ? any(3, 4) : about(3, 10), profile == 5 ? 1 : any(1, 4));
        if (profile == 2 || profile == 3) call("late", 8);
        if (profile == 5) call("begin", any(3, 5), 3, any(1, 2));
        int n = profile == 0 ? any(0, 5) : any(0, 30);
        for (int i = 0; i < n; i++) setUpCall(profile);
        if (rarely(20)) for (int i = 0; i < 15; i++) call("door", cell(), about(0, 15));
        if (profile == 5) call("door", 1, any(0, 15));
    }

    private void setUpCall(int profile) {
        int r = any(0, 100);
        if (r < 20) call("wall", cell());
        else if (r < 32) call("door", cell(), about(0, 15));
        else if (r < 42) call("plate", rarely(4) ? 0 : cell(), about(0, Math.max(0, plain.words.size() - 1)));
        else if (r < 85) call("place", about(1, 7), rarely(6) ? 0 : cell());
        else if (r < 92) call("late", about(0, 8));
        else if (r < 98) call("risk", rarely(3) ? any(0, 1048576) : about(0, 1048576));
        else if (rarely(4)) call("begin", about(3, 10), about(3, 10), about(1, 4));
    }

    private long letter(int p) {
        int kind = any(0, 6);
        if (rarely(3)) kind = 2;
        if (rarely(4)) kind = 1;
        if (rarely(40)) kind = any(7, 15);
        int d = kind == 0 || kind == 4 || kind == 5 ? 0 : any(0, 3);
        int t = plain.now + (rarely(3) ? any(-plain.lateTicks - 1, 3) : rarely(2) ? 0 : any(-plain.lateTicks, 0));
        if (plain.playerOk(p) && rarely(2)) {
            Oracle.Thing me = plain.worlds.get(Math.max(0, Math.min(t, plain.now))).things.get(p);
            if (me.carries < 0 && rarely(3)) kind = 4;
            if (me.carries >= 0 && rarely(5)) kind = rarely(2) ? 5 : 6;
            for (int e = 0; e < 4; e++) {
                int to = plain.next(me.cell, e);
                if (to >= 0 && plain.doorIn.containsKey(to) && rarely(2)) {
                    kind = 3;
                    d = e;
                }
            }
            if (kind == 0 || kind == 4 || kind == 5) d = 0;
        }
        if (rarely(50)) d = any(0, 3);
        int w = kind == 3 ? word() : rarely(50) ? any(0, 15) : 0;
        int seq = plain.playerOk(p) ? plain.seq[p] : 0;
        if (rarely(30)) seq += any(-1, 1);
        long bits = plain.pack(kind, d, w, t, seq);
        if (rarely(40)) bits ^= 1L << any(0, 63);
        return bits;
    }

    private int word() {
        return plain.words.isEmpty() || rarely(3) ? any(0, 15) : plain.words.get(dice.nextInt(plain.words.size()));
    }

    private void feedOne() {
        int p = player();
        call("feed", p, letter(p));
    }

    private void question() {
        switch (any(0, 17)) {
            case 0: call("body", player(), about(0, 6)); break;
            case 1: call("thing", about(0, plain.worlds.get(0).things.size() - 1), about(0, 3)); break;
            case 2: call("open", about(0, Math.max(0, plain.words.size() - 1))); break;
            case 3: call("sees", player(), cell()); break;
            case 4: call("told", player(), cell()); break;
            case 5: call("letter", player(), plain.now - about(0, 8)); break;
            case 6: call("digest", plain.now - about(0, 8)); break;
            case 7: call("replay", about(0, plain.now)); break;
            case 8: call("fall"); break;
            case 9: call("act", plain.now - any(-3, 9), player()); break;
            case 10: call("hit", plain.now - any(0, 9), player()); break;
            case 11: call("taken", about(0, Math.max(0, plain.takenBack.size() - 1)), about(0, 3)); break;
            case 12: call("back", about(0, 3)); break;
            case 13: call("watch", player(), about(0, 1), about(0, 3)); break;
            case 14: call("fair", player(), about(0, 1)); break;
            case 15: call("count", about(0, 10)); break;
            case 16: call("pack", dice.nextInt(), dice.nextInt(), dice.nextInt(), dice.nextInt(), dice.nextInt()); break;
            default: call("act", about(0, 499), player()); break;
        }
    }

    private void tapeWork() {
        int d = about(0, 5);
        switch (any(0, 10)) {
            case 0: call("tape", d, about(1, 4), rarely(10) ? any(-3, 90) : about(0, 80)); break;
            case 1: call("view", d, player()); break;
            case 2: if (rarely(3)) call("clear", d); break;
            case 3: call("put", d, about(0, 80), dice.nextLong()); break;
            case 4: call("put", d, any(-1, 5), (long) any(-40000, 40000)); break;
            case 5: call("at", d, about(0, 80)); break;
            case 6: call("copy", d, any(-1, 6), rarely(2) ? d : about(0, 5), any(-1, 6), rarely(20) ? about(0, 80) : any(-1, 6)); break;
            case 7: playSome(); break;
            case 8: call("kept", d, cell()); break;
            case 9: call("toss", d); break;
            default: call("play", d, any(-1, 5), about(0, 80), player()); break;
        }
    }

    /** Letters for ticks in a row, with their SEQS in a row, put on a TAPE and played. */
    private void playSome() {
        int d = any(0, 5), p = any(0, plain.players - 1), n = any(1, 4);
        call("tape", d, 4, n);
        for (int i = 0; i < n; i++) {
            call("put", d, i, plain.pack(rarely(3) ? 2 : 1, any(0, 3), 0, plain.now - 1 + i, plain.seq[p] + i));
        }
        call("play", d, rarely(5) ? 1 : 0, rarely(5) ? n + 1 : n, p);
    }

    private void noteEnd() {
        if (plain.takenBack.size() > 0) note("a hit taken back");
        if (plain.takenBack.size() > 64) note("more than 64 taken back");
        for (int p = 0; p < plain.players; p++) {
            if (plain.trials[p][0].many == 64) note("64 trials of foreseeing");
            if (plain.trials[p][1].many == 64) note("64 trials of machine");
            if (plain.trials[p][0].told > 0) note("told of foreseeing");
            if (plain.trials[p][1].told > 0) note("told of machine");
            if (plain.fairHits[p][1] > 0) note("a fair hit late");
            if (plain.fairHits[p][0] > 0) note("a fair hit in time");
            if (plain.body(p, 6) > 0) note("known door");
            if (plain.body(p, 5) > 0) note("points");
            if (plain.body(p, 1) == 0) note("a dead body");
            if (plain.letter(p, plain.now) == 0) note("a letter 0");
        }
    }
}
