import java.util.ArrayList;
import java.util.List;

/**
 * Part VII. "What is refused changes nothing": of two objects with the same calls one gets a call that is refused, and
 * every question that can be asked is answered the same by both. "Of several refusals the one that is named first in a
 * method's words is answered": calls that deserve two.
 */
public final class RefusalTest extends Check {
    /** A call of which the answer is looked at. */
    private interface Call {
        long on(Judge x);
    }

    private static final class Named {
        final String name;
        final Call call;

        Named(String name, Call call) {
            this.name = name;
            this.call = call;
        }
    }

    public static void main(String[] args) {
        refusedAheadOfTheStart();
        refusedWhenFull();
        refusedInARun();
        refusedLettersInARun();
        refusedByTapes();
        refusedAtTheEnd();
        firstOfBuilding();
        firstOfLetters();
        firstOfDeadLetters();
        firstOfTapes();
        end("RefusalTest");
    }

    // ---- what is refused changes nothing

    private static long orThrown(Judge x, int d, int i) {
        try {
            return x.at(d, i);
        } catch (IllegalArgumentException e) {
            return 1L << 40;
        } catch (IllegalStateException e) {
            return 1L << 41;
        }
    }

    private static void ask(List<Named> all, String name, Call call) {
        all.add(new Named(name, call));
    }

    private static List<Named> questions() {
        List<Named> all = new ArrayList<>();
        for (int i = 0; i < 9; i++) {
            int what = i;
            ask(all, "count " + i, x -> x.count(what));
        }
        for (int i = 0; i < 4; i++) {
            int p = i;
            for (int j = 0; j < 7; j++) {
                int what = j;
                ask(all, "body " + i + " " + j, x -> x.body(p, what));
            }
            for (int j = 0; j < 24; j++) {
                int cell = j;
                ask(all, "told " + i + " " + j, x -> x.told(p, cell));
            }
            for (int j = 0; j < 9; j++) {
                int back = j;
                ask(all, "letter " + i + " " + j, x -> x.letter(p, x.now - back));
            }
            for (int j = 0; j < 8; j++) {
                int what = j;
                ask(all, "watch " + i + " " + j, x -> x.watch(p, what / 4, what % 4));
                ask(all, "fair, back or taken " + i + " " + j, x -> hostQuestion(x, p, what));
            }
        }
        questionsOfThings(all);
        questionsOfTicks(all);
        return all;
    }

    private static long hostQuestion(Judge x, int p, int what) {
        return what < 2 ? x.fair(p, what) : what < 6 ? x.back(what - 2) : x.taken(p, what - 6);
    }

    private static void questionsOfThings(List<Named> all) {
        for (int i = 0; i < 16; i++) {
            int n = i;
            for (int j = 0; j < 4; j++) {
                int what = j;
                ask(all, "thing " + i + " " + j, x -> x.thing(n, what));
            }
        }
        for (int i = 0; i < 8; i++) {
            int door = i;
            ask(all, "open " + i, x -> x.open(door));
        }
        for (int i = 0; i < 6; i++) {
            int d = i;
            for (int j = 0; j < 5; j++) {
                int place = j;
                ask(all, "at " + i + " " + j, x -> orThrown(x, d, place));
            }
            for (int j = 0; j < 24; j++) {
                int cell = j;
                ask(all, "kept " + i + " " + j, x -> x.kept(d, cell));
            }
        }
    }

    private static void questionsOfTicks(List<Named> all) {
        for (int i = 0; i < 12; i++) {
            int t = i;
            for (int j = 0; j < 4; j++) {
                int p = j;
                ask(all, "act " + i + " " + j, x -> x.act(t, p));
                ask(all, "hit " + i + " " + j, x -> x.hit(t, p));
            }
            ask(all, "digest " + i, x -> x.digest(t));
            ask(all, "replay " + i, x -> x.replay(t));
        }
    }

    /** What changes the world is asked last, on objects of its own. */
    private static List<Named> sequel() {
        List<Named> all = new ArrayList<>();
        for (int i = 0; i < 24; i++) {
            int cell = i;
            ask(all, "then wall " + i, x -> x.wall(cell));
        }
        ask(all, "then late", x -> x.late(2));
        ask(all, "then door", x -> x.door(9, 1));
        ask(all, "then plate", x -> x.plate(10, 0));
        ask(all, "then place", x -> x.place(POT, 16));
        for (int i = 0; i < 40; i++) {
            int p = i % 4;
            int seq = i / 4;
            ask(all, "then feed " + p + " " + seq, x -> x.feed(p, bits(STEP, 2, 0, x.now, seq)));
        }
        for (int i = 0; i < 12; i++) {
            ask(all, "then step " + i, x -> x.step());
            ask(all, "then digest " + i, x -> x.digest(x.now));
            for (int j = 0; j < 8; j++) {
                int n = j;
                ask(all, "then watch " + j, x -> x.watch(n % 4, n / 4, 2));
            }
        }
        ask(all, "then risk", x -> x.risk(5));
        for (int i = 0; i < 6; i++) {
            int d = i;
            ask(all, "then clear " + i, x -> x.clear(d));
        }
        return all;
    }

    private static final List<Named> QUESTIONS = questions();
    private static final List<Named> SEQUEL = sequel();

    private static void unchanged(String what, Call build, int want, Call refused) {
        for (int from = 0; from < QUESTIONS.size();) {
            from = compare(what, build, want, refused, QUESTIONS, from);
        }
        due("the sequel fits", compare(what, build, want, refused, SEQUEL, 0), SEQUEL.size());
    }

    /** Asks as many questions as the calls that are left allow: the first that is yet to be asked. */
    private static int compare(String what, Call build, int want, Call refused, List<Named> asked, int from) {
        Judge one = new Judge();
        Judge other = new Judge();
        build.on(one);
        build.on(other);
        long answer = refused.on(one);
        due(what, answer, want);
        boolean isTheHosts = answer <= NOTHING && answer >= THROWN;
        due(what + ": the host's refusals", one.count(10) - other.count(10), isTheHosts ? 1 : 0);
        int i = from;
        for (; i < asked.size() && one.callsLeft() > 0; i++) {
            Named q = asked.get(i);
            due(what + " leaves " + q.name, q.call.on(one), q.call.on(other));
        }
        return i;
    }

    // ---- the worlds in which calls are refused

    /** 6 times 4, three players, all sorts of things, and TAPES of all sorts. */
    private static long build(Judge x) {
        x.begin(6, 4, 3);
        x.late(3);
        x.risk(70000);
        x.wall(4);
        x.door(1, 9);
        x.door(12, 2);
        x.plate(0, 1);
        x.plate(8, 0);
        x.place(CROWN, 0);
        x.place(BEAST, 18);
        x.place(POT, 7);
        x.place(TRAP, 11);
        x.place(TRAP, 11);
        x.place(TRAP, 11);
        x.place(STONE, 5);
        for (int sort = 1; sort <= 4; sort++) {
            x.tape(sort, sort, 3);
            for (int i = 0; i < 3; i++) x.put(sort, i, 40 + 10 * sort + i);
        }
        x.view(5, 0);
        return 0;
    }

    private static long buildFull(Judge x) {
        x.begin(6, 4, 3);
        for (int i = 0; i < 8; i++) x.door(6 + i, i);
        for (int n = 3; n < 16; n++) x.place(3 + n % 5, 20);
        return 0;
    }

    /** A run with a HIT, one TAKEN BACK, a dead BODY (2), a CROWN that is carried, REST, an ACT to come, and TRIALS. */
    private static long run(Judge x) {
        build(x);
        x.feed(0, bits(TAKE, 0, 0, 0, 0));
        x.feed(2, bits(TAKE, 0, 0, 0, 0));
        x.step();
        x.feed(0, bits(OPEN, RIGHT, 9, 1, 1));
        x.feed(2, bits(THROW, DOWN, 0, 1, 1));
        x.step();
        x.feed(0, bits(SHOT, RIGHT, 0, 2, 2));
        x.step();
        x.feed(2, bits(STEP, DOWN, 0, 3, 2));
        x.step();
        x.feed(1, bits(SHOT, LEFT, 0, 4, 0));
        x.step();
        x.feed(0, bits(SHOT, UP, 0, 5, 3));
        x.step();
        x.feed(1, bits(STEP, UP, 0, 3, 1));
        x.feed(0, bits(STEP, RIGHT, 0, 8, 4));
        return 0;
    }

    private static void runIsAsTold() {
        Judge x = new Judge();
        run(x);
        due("now", x.now, 6);
        due("player 2 is dead", x.body(2, 1), 0);
        due("the crown is carried", x.body(0, 4), 3);
        due("rest", x.body(0, 3), 2);
        due("a hit", x.hit(1, 2), 2);
        due("a going back", x.back(0), 1);
        due("a hit taken back", x.taken(0, 2), 4);
        due("a trial", x.watch(0, 0, 0) > 0 ? 1 : 0, 1);
        due("an act to come", x.act(8, 0), STEP + 16);
    }

    private static void refusedAheadOfTheStart() {
        sentence("What is refused changes nothing");
        Call b = RefusalTest::build;
        unchanged("begin with 2 columns", b, NONE, x -> x.begin(2, 5, 1));
        unchanged("begin with 11 rows", b, NONE, x -> x.begin(5, 11, 1));
        unchanged("begin with 5 players", b, NONE, x -> x.begin(5, 5, 5));
        unchanged("begin with 0 players", b, NONE, x -> x.begin(5, 5, 0));
        unchanged("wall(24)", b, NONE, x -> x.wall(24));
        unchanged("wall of a door", b, KIND, x -> x.wall(1));
        unchanged("wall of a plate", b, KIND, x -> x.wall(8));
        unchanged("wall of a pot", b, KIND, x -> x.wall(7));
        unchanged("door(24)", b, NONE, x -> x.door(24, 1));
        unchanged("door with word 16", b, NONE, x -> x.door(9, 16));
        unchanged("door of a wall", b, KIND, x -> x.door(4, 1));
        unchanged("door of a beast", b, KIND, x -> x.door(18, 1));
        unchanged("plate of door 2", b, NONE, x -> x.plate(9, 2));
        unchanged("plate of a wall", b, KIND, x -> x.plate(4, 0));
        unchanged("plate of a plate", b, KIND, x -> x.plate(8, 1));
        unchanged("place of kind 8", b, NONE, x -> x.place(8, 9));
        unchanged("place in a wall", b, KIND, x -> x.place(POT, 4));
        unchanged("place of a beast on a body", b, KIND, x -> x.place(BEAST, 0));
        unchanged("late(9)", b, NONE, x -> x.late(9));
        unchanged("risk(-1)", b, NONE, x -> x.risk(-1));
        unchanged("risk above all", b, NONE, x -> x.risk(ONE + 1));
    }

    private static void refusedWhenFull() {
        sentence("What is refused changes nothing");
        Call b = RefusalTest::buildFull;
        unchanged("a ninth door", b, FULL, x -> x.door(3, 1));
        unchanged("a seventeenth thing", b, FULL, x -> x.place(POT, 3));
        unchanged("a seventeenth thing that stands", b, FULL, x -> x.place(WOLF, 3));
    }

    private static void refusedInARun() {
        sentence("What is refused changes nothing");
        runIsAsTold();
        Call r = RefusalTest::run;
        unchanged("begin in a run", r, NONE, x -> x.begin(3, 3, 5));
        unchanged("wall in a run", r, STARTED, x -> x.wall(9));
        unchanged("door in a run", r, STARTED, x -> x.door(9, 1));
        unchanged("plate in a run", r, STARTED, x -> x.plate(9, 0));
        unchanged("place in a run", r, STARTED, x -> x.place(POT, 9));
        unchanged("late in a run", r, STARTED, x -> x.late(8));
        unchanged("risk in a run", r, NONE, x -> x.risk(MIN));
        unchanged("body", r, NONE, x -> x.body(3, 0));
        unchanged("thing", r, NONE, x -> x.thing(10, 0));
        unchanged("open", r, NONE, x -> x.open(2));
        unchanged("sees", r, NONE, x -> x.sees(0, 24));
        unchanged("told", r, NONE, x -> x.told(3, 0));
        unchanged("letter", r, NONE, x -> x.letter(0, 7));
        unchanged("digest", r, NONE, x -> x.digest(7));
        unchanged("replay", r, NONE, x -> x.replay(7));
        unchanged("act", r, NONE, x -> x.act(500, 0));
        unchanged("hit", r, NONE, x -> x.hit(6, 0));
        unchanged("taken", r, NONE, x -> x.taken(64, 0));
        unchanged("back", r, NONE, x -> x.back(4));
        unchanged("watch", r, NONE, x -> x.watch(0, 2, 0));
        unchanged("fair", r, NONE, x -> x.fair(0, 2));
        unchanged("count", r, NONE, x -> x.count(11));
    }

    private static void letterIsRefused(String what, int want, int p, long bits) {
        unchanged(what, RefusalTest::run, want, x -> x.feed(p, bits));
        Judge x = new Judge();
        run(x);
        int before = x.count(9);
        x.feed(p, bits);
        due(what + " is counted", x.count(9) - before, 1);
    }

    private static void refusedLettersInARun() {
        sentence("What is refused changes nothing");
        letterIsRefused("no such player", NONE, 3, bits(WAIT, 0, 0, 6, 0));
        letterIsRefused("a high bit", GARBLED, 0, bits(WAIT, 0, 0, 6, 5) | 1L << 42);
        letterIsRefused("a wrong sum", GARBLED, 0, bits(WAIT, 0, 0, 6, 5) + (1L << 34));
        letterIsRefused("kind 7", KIND, 0, bits(7, 0, 0, 6, 5));
        letterIsRefused("a wait with a direction", KIND, 0, bits(WAIT, 1, 0, 6, 5));
        letterIsRefused("a step with a word", KIND, 0, bits(STEP, 1, 1, 6, 5));
        letterIsRefused("seq one too far", SEQ, 0, bits(WAIT, 0, 0, 6, 6));
        letterIsRefused("seq once more", SEQ, 0, bits(WAIT, 0, 0, 6, 4));
        letterIsRefused("too late", LATE, 1, bits(WAIT, 0, 0, 1, 2));
        letterIsRefused("too early", EARLY, 0, bits(WAIT, 0, 0, 9, 5));
        letterIsRefused("twice for tick 5", TWICE, 0, bits(STEP, 2, 0, 5, 5));
        letterIsRefused("twice for tick 8", TWICE, 0, bits(STEP, 2, 0, 8, 5));
        letterIsRefused("of the dead", DEAD, 2, bits(STEP, 2, 0, 6, 3));
        letterIsRefused("of the dead, late", DEAD, 2, bits(STEP, 2, 0, 4, 3));
        letterIsRefused("of the dead, early", DEAD, 2, bits(STEP, 2, 0, 8, 3));
        letterIsRefused("a shot with rest", CRAFTED, 0, bits(SHOT, 2, 0, 6, 5));
        letterIsRefused("an open of a floor", CRAFTED, 1, bits(OPEN, 3, 0, 6, 2));
        letterIsRefused("a take while it carries", CRAFTED, 0, bits(TAKE, 0, 0, 6, 5));
        letterIsRefused("a put of nothing", CRAFTED, 1, bits(PUT, 0, 0, 6, 2));
        letterIsRefused("a throw of a crown, late", CRAFTED, 0, bits(THROW, 1, 0, 4, 5));
    }

    private static void refusedByTapes() {
        sentence("What is refused changes nothing");
        Call r = x -> {
            run(x);
            return x.clear(1);
        };
        unchanged("tape 6", r, NONE, x -> x.tape(6, 1, 1));
        unchanged("sort 5", r, NONE, x -> x.tape(2, 5, 1));
        unchanged("81 elements", r, NONE, x -> x.tape(2, 2, 81));
        unchanged("-1 elements", r, SIZE, x -> x.tape(2, 2, -1));
        unchanged("view of nobody", r, NONE, x -> x.view(2, 3));
        unchanged("view on no tape", r, NONE, x -> x.view(-1, 0));
        unchanged("clear", r, NONE, x -> x.clear(6));
        unchanged("put on no tape", r, NONE, x -> x.put(6, 0, 1));
        unchanged("put on nothing", r, NOTHING, x -> x.put(1, 0, 1));
        unchanged("put on a view", r, CAST, x -> x.put(5, 0, 1));
        unchanged("put behind the row", r, PLACE, x -> x.put(2, 3, 1));
        unchanged("copy from no tape", r, NONE, x -> x.copy(6, 0, 2, 0, 1));
        unchanged("copy to nothing", r, NOTHING, x -> x.copy(2, 0, 1, 0, 1));
        unchanged("copy of two sorts", r, CAST, x -> x.copy(2, 0, 3, 0, 1));
        unchanged("copy of a view", r, CAST, x -> x.copy(5, 0, 5, 1, 1));
        unchanged("copy of too many", r, PLACE, x -> x.copy(2, 1, 2, 0, 3));
        unchanged("play of nobody", r, NONE, x -> x.play(4, 0, 1, 3));
        unchanged("play of nothing", r, NOTHING, x -> x.play(1, 0, 1, 0));
        unchanged("play of ints", r, CAST, x -> x.play(3, 0, 1, 0));
        unchanged("play from behind the row", r, PLACE, x -> x.play(4, 3, 1, 0));
        unchanged("kept of nothing", r, NOTHING, x -> x.kept(1, 0));
        unchanged("kept of a row", r, CAST, x -> x.kept(2, 0));
        unchanged("kept of cell 24", r, PLACE, x -> x.kept(5, 24));
        unchanged("toss of nothing", r, NOTHING, x -> x.toss(1));
        unchanged("toss of a row", r, CAST, x -> x.toss(2));
        Call dead = x -> {
            run(x);
            return x.view(5, 2);
        };
        unchanged("toss of the dead one's view", dead, THROWN, x -> x.toss(5));
        unchanged("a letter on a tape that is refused", r, 0, x -> x.play(4, 0, 3, 0));
    }

    private static void refusedAtTheEnd() {
        sentence("FULL: NOW is 500");
        for (int i = 0; i < 2; i++) {
            Game g = new Game(3, 3, 1);
            g.x.feed(0, bits(SHOT, DOWN, 0, 2, 0));
            g.stepsTo(500);
            if (i == 1) due("no tick more", g.x.step(), FULL);
            due("now", g.x.count(5), 500);
            due("digest", g.x.digest(500), fold(7, 0, 5, 2, 0, 0, 0, 0, 0));
            due("oldest digest", g.x.digest(492), fold(7, 0, 5, 2, 0, 0, 0, 0, 0));
            due("no older one", g.x.digest(491), NONE);
            due("a late letter", g.x.feed(0, bits(STEP, RIGHT, 0, 499, 1)), 1);
            due("cell", g.x.body(0, 0), 1);
        }
    }

    // ---- the one that is named first

    private static void firstOfBuilding() {
        sentence("Of several refusals the one that is named first in a method's words is answered");
        Judge full = new Judge();
        buildFull(full);
        full.wall(1);
        due("door: NONE ahead of KIND", full.door(1, 16), NONE);
        due("door: NONE ahead of FULL", full.door(3, -1), NONE);
        due("door: KIND ahead of FULL", full.door(1, 1), KIND);
        due("door: KIND ahead of FULL, a thing", full.door(20, 1), KIND);
        due("plate: NONE ahead of KIND", full.plate(1, 8), NONE);
        due("place: NONE ahead of KIND", full.place(8, 1), NONE);
        due("place: NONE ahead of FULL", full.place(0, 3), NONE);
        due("place: KIND ahead of FULL", full.place(POT, 1), KIND);
        due("place: KIND ahead of FULL, one stands", full.place(BEAST, 0), KIND);
        full.step();
        due("wall: NONE ahead of STARTED", full.wall(24), NONE);
        due("wall: STARTED ahead of KIND", full.wall(6), STARTED);
        due("door: NONE ahead of STARTED", full.door(3, 16), NONE);
        due("door: NONE ahead of STARTED", full.door(-1, 0), NONE);
        due("door: STARTED ahead of KIND", full.door(1, 1), STARTED);
        due("door: STARTED ahead of FULL", full.door(3, 1), STARTED);
        due("plate: NONE ahead of STARTED", full.plate(3, 8), NONE);
        due("plate: STARTED ahead of KIND", full.plate(1, 0), STARTED);
        due("place: NONE ahead of STARTED", full.place(POT, 24), NONE);
        due("place: STARTED ahead of KIND", full.place(POT, 1), STARTED);
        due("place: STARTED ahead of FULL", full.place(POT, 3), STARTED);
        due("late: NONE ahead of STARTED", full.late(9), NONE);
    }

    /** At NOW 6 with LATE 4; player 0's ACTS of 1, 4 and 7 are there, its next SEQ is 3. */
    private static Judge lettersCame() {
        Game g = new Game(3, 3, 2);
        g.steps(1);
        g.doNow(0, WAIT, 0);
        g.stepsTo(4);
        g.doNow(0, WAIT, 0);
        g.stepsTo(6);
        g.sendsEarly(0, WAIT, 0, 0, 7);
        return g.x;
    }

    private static void firstOfLetters() {
        sentence("Of several refusals the one that is named first in a method's words is answered");
        Judge x = lettersCame();
        long[] bad = {bits(WAIT, 0, 0, 6, 0) + 1, bits(7, 0, 0, 6, 0), bits(WAIT, 0, 0, 6, 9), bits(WAIT, 0, 0, 1, 0),
            bits(WAIT, 0, 0, 9, 0), bits(PUT, 0, 0, 6, 0)};
        for (long b : bad) due("NONE ahead of all", x.feed(2, b), NONE);
        long wrongSum = 1L << 34;
        long[] garbled = {bits(7, 0, 0, 6, 3), bits(WAIT, 0, 0, 6, 9), bits(WAIT, 0, 0, 0, 3), bits(WAIT, 0, 0, 9, 3),
            bits(WAIT, 0, 0, 4, 3), bits(PUT, 0, 0, 6, 3)};
        for (long b : garbled) due("GARBLED ahead of the others", x.feed(0, b + wrongSum), GARBLED);
        long[] kinds = {bits(7, 0, 0, 6, 9), bits(7, 0, 0, 0, 3), bits(7, 0, 0, 9, 3), bits(7, 0, 0, 4, 3), bits(PUT, 1, 0, 6, 3)};
        for (long b : kinds) due("KIND ahead of the others", x.feed(0, b), KIND);
        long[] seqs = {bits(WAIT, 0, 0, 0, 9), bits(WAIT, 0, 0, 9, 9), bits(WAIT, 0, 0, 4, 9), bits(PUT, 0, 0, 6, 9)};
        for (long b : seqs) due("SEQ ahead of the others", x.feed(0, b), SEQ);
        due("LATE ahead of TWICE", x.feed(0, bits(WAIT, 0, 0, 1, 3)), LATE);
        due("LATE ahead of CRAFTED", x.feed(0, bits(PUT, 0, 0, 0, 3)), LATE);
        due("TWICE ahead of CRAFTED", x.feed(0, bits(PUT, 0, 0, 4, 3)), TWICE);
        due("EARLY, not asked whether it is CRAFTED", x.feed(0, bits(PUT, 0, 0, 9, 3)), EARLY);
        due("CRAFTED alone", x.feed(0, bits(PUT, 0, 0, 6, 3)), CRAFTED);
    }

    /** Player 0 died in tick 0; NOW is 6; its ACT of tick 2 was sent when it lived; its next SEQ is 2. */
    private static void firstOfDeadLetters() {
        sentence("Of several refusals the one that is named first in a method's words is answered");
        Game g = new Game(3, 3, 2);
        g.places(TRAP, 1, 1, 1);
        g.sendsEarly(0, WAIT, 0, 0, 2);
        g.doNow(0, STEP, RIGHT);
        due("dead", g.x.body(0, 1), 0);
        g.stepsTo(6);
        Judge x = g.x;
        due("NONE ahead of DEAD", x.feed(-1, bits(WAIT, 0, 0, 6, 2)), NONE);
        due("GARBLED ahead of DEAD", x.feed(0, bits(WAIT, 0, 0, 6, 2) + 1), GARBLED);
        due("KIND ahead of DEAD", x.feed(0, bits(WAIT, 1, 0, 6, 2)), KIND);
        due("SEQ ahead of DEAD", x.feed(0, bits(WAIT, 0, 0, 6, 3)), SEQ);
        due("LATE ahead of DEAD", x.feed(0, bits(WAIT, 0, 0, 1, 2)), LATE);
        due("EARLY ahead of DEAD", x.feed(0, bits(WAIT, 0, 0, 9, 2)), EARLY);
        due("TWICE ahead of DEAD", x.feed(0, bits(WAIT, 0, 0, 2, 2)), TWICE);
        due("DEAD ahead of CRAFTED", x.feed(0, bits(PUT, 0, 0, 6, 2)), DEAD);
        due("DEAD alone", x.feed(0, bits(WAIT, 0, 0, 3, 2)), DEAD);
    }

    private static void firstOfTapes() {
        sentence("Of several refusals the one that is named first in a method's words is answered");
        Judge x = new Judge();
        x.tape(1, 4, 2);
        x.tape(2, 3, 2);
        x.view(3, 0);
        due("tape: NONE ahead of SIZE", x.tape(6, 1, -1), NONE);
        due("tape: NONE ahead of SIZE", x.tape(0, 5, -1), NONE);
        due("put: NONE ahead of PLACE", x.put(6, -1, 0), NONE);
        due("put: NOTHING ahead of PLACE", x.put(0, -1, 0), NOTHING);
        due("put: CAST ahead of PLACE", x.put(3, -1, 0), CAST);
        due("copy: NONE ahead of NOTHING", x.copy(0, 0, 6, 0, 1), NONE);
        due("copy: NONE ahead of CAST", x.copy(3, 0, -1, 0, 1), NONE);
        due("copy: NONE ahead of PLACE", x.copy(6, 0, 1, 0, 9), NONE);
        due("copy: NOTHING ahead of CAST", x.copy(3, 0, 0, 0, 1), NOTHING);
        due("copy: NOTHING ahead of CAST", x.copy(0, 0, 3, 0, 1), NOTHING);
        due("copy: NOTHING ahead of PLACE", x.copy(1, -1, 0, 0, 1), NOTHING);
        due("copy: CAST ahead of PLACE", x.copy(1, 0, 2, 0, 9), CAST);
        due("copy: CAST ahead of PLACE", x.copy(3, 0, 3, 0, -1), CAST);
        due("play: NONE ahead of NOTHING", x.play(0, 0, 81, 0), NONE);
        due("play: NONE ahead of NOTHING", x.play(0, 0, 1, 2), NONE);
        due("play: NONE ahead of CAST", x.play(2, 0, -1, 0), NONE);
        due("play: NONE ahead of PLACE", x.play(1, 9, 81, 0), NONE);
        due("play: NOTHING ahead of PLACE", x.play(0, 9, 1, 0), NOTHING);
        due("play: CAST ahead of PLACE", x.play(2, 9, 1, 0), CAST);
        due("kept: NONE ahead of PLACE", x.kept(6, 99), NONE);
        due("kept: NOTHING ahead of PLACE", x.kept(0, 99), NOTHING);
        due("kept: CAST ahead of PLACE", x.kept(1, 99), CAST);
        due("the host's refusals", x.count(10), 11);
    }
}
