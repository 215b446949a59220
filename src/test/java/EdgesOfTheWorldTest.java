/** The boundary cases of part I (but for SEES) and of promises 1 to 8, a test for each sentence. */
public final class EdgesOfTheWorldTest extends Check {
    public static void main(String[] args) {
        columnsAndRows();
        cellNumbers();
        directions();
        worldHasEdges();
        doorsAreNumbered();
        wordsOfDoors();
        plateBelongsToADoor();
        whatBars();
        thingsAreNumbered();
        bodiesOfPlayers();
        kindsOfThings();
        faceAndLifeAtFirst();
        restKnownAndPointsAtFirst();
        standingNeedsLife();
        lyingIsNotGone();
        lyingIsNotCarried();
        oneIsCarriedAtMost();
        newObject();
        beginTakesAndRefuses();
        beginForgetsTheWorld();
        beginForgetsKinds();
        beginForgetsTheRun();
        beginForgetsTheWatch();
        tapesStay();
        wallGoesToAndFro();
        wallHasCells();
        wallIsStarted();
        wallOfAnotherKind();
        doorHasCellsAndWords();
        doorIsStarted();
        doorOfAnotherKind();
        doorsAreFull();
        plateHasCellsAndDoors();
        plateIsStarted();
        plateOfAnotherKind();
        placeHasKindsAndCells();
        placeIsStarted();
        placeOfAnotherKind();
        placeWhereSomethingStands();
        placesAreFull();
        lateTakesAndRefuses();
        lateIsStarted();
        riskTakesAndRefuses();
        riskIsNeverStarted();
        end("EdgesOfTheWorldTest");
    }

    // ---- part I

    private static void columnsAndRows() {
        sentence("THE WORLD has W columns and H rows (3 .. 10 each; 7 and 7 at first)");
        Judge first = new Judge();
        due("columns at first", first.count(0), 7);
        due("rows at first", first.count(1), 7);
        due("cell 47", first.wall(47), 1);
        due("cell 48 is the last: a body is there", first.wall(48), KIND);
        due("no cell 49", first.wall(49), NONE);
        for (int w = 3; w <= 10; w++) {
            Judge x = new Judge();
            for (int h = 3; h <= 10; h++) {
                due("cells", x.begin(w, h, 1), w * h);
                due("columns", x.count(0), w);
                due("rows", x.count(1), h);
                due("the last cell", x.wall(w * h - 1), 1);
                due("behind the last cell", x.wall(w * h), NONE);
            }
        }
    }

    private static void cellNumbers() {
        sentence("a CELL's number is its row times W and its column");
        for (int w = 3; w <= 10; w++) {
            Game g = new Game(w, 3, 1);
            g.doNow(0, STEP, DOWN);
            due("row 1, column 0", g.x.body(0, 0), w);
            g.doNow(0, STEP, RIGHT);
            due("row 1, column 1", g.x.body(0, 0), w + 1);
            g.doNow(0, STEP, DOWN);
            due("row 2, column 1", g.x.body(0, 0), 2 * w + 1);
        }
    }

    private static void directions() {
        sentence("DIRECTIONS: 0 up (a row less), 1 right, 2 down, 3 left");
        int[] wanted = {7 - 5, 7 + 1, 7 + 5, 7 - 1};
        for (int d = 0; d < 4; d++) {
            Game g = new Game(5, 3, 1);
            g.doNow(0, STEP, 1);
            g.doNow(0, STEP, 1);
            g.doNow(0, STEP, 2);
            due("in the middle", g.x.body(0, 0), 7);
            g.doNow(0, STEP, d);
            due("direction " + d, g.x.body(0, 0), wanted[d]);
        }
    }

    /** No way leads round an edge, though the numbers of the CELLS go on there. */
    private static void worldHasEdges() {
        sentence("THE WORLD has W columns and H rows");
        Game g = new Game(3, 3, 4);
        int[] cells = {0, 8, 2, 6};
        int[][] outwards = {{UP, LEFT}, {DOWN, RIGHT}, {UP, RIGHT}, {DOWN, LEFT}};
        for (int k = 0; k < 2; k++) {
            for (int p = 0; p < 4; p++) g.does(p, STEP, outwards[p][k]);
            g.steps(1);
            for (int p = 0; p < 4; p++) due("body " + p + " stays", g.x.body(p, 0), cells[p]);
        }
        Game h = new Game(3, 3, 1);
        h.doNow(0, STEP, DOWN);
        h.doNow(0, STEP, LEFT);
        due("left of row 1 is not the end of row 0", h.x.body(0, 0), 3);
        h.doNow(0, STEP, RIGHT);
        h.doNow(0, STEP, RIGHT);
        h.doNow(0, STEP, RIGHT);
        due("right of row 1 is not the start of row 2", h.x.body(0, 0), 5);
    }

    private static void doorsAreNumbered() {
        sentence("DOORS are numbered 0 .. 7 in the order made");
        Judge x = new Judge();
        int[] cells = {40, 3, 20, 1, 33, 8, 47, 15};
        for (int i = 0; i < 8; i++) {
            due("no door yet", x.open(i), NONE);
            due("door", x.door(cells[i], 0), i);
            due("shut", x.open(i), 0);
        }
        due("no door 8", x.open(8), NONE);
    }

    private static void wordsOfDoors() {
        sentence("each has a WORD (0 .. 15) and is shut at first");
        for (int word = 0; word <= 15; word++) {
            Game g = new Game(3, 3, 1);
            due("word " + word, g.x.door(1, word), 0);
            due("shut at first", g.x.open(0), 0);
            g.opens(0, RIGHT, (word + 1) % 16);
            due("one word further", g.x.open(0), 0);
            g.opens(0, RIGHT, (word + 15) % 16);
            due("one word ahead", g.x.open(0), 0);
            g.opens(0, RIGHT, word);
            due("its word", g.x.open(0), 1);
        }
    }

    private static void plateBelongsToADoor() {
        sentence("A PLATE belongs to a DOOR");
        for (int door = 0; door < 8; door++) {
            Game g = new Game(5, 3, 1);
            for (int i = 0; i < 8; i++) g.x.door(14 - i, 0);
            due("a plate", g.x.plate(1, door), 3);
            due("nothing known", g.x.body(0, 6), 0);
            g.doNow(0, STEP, RIGHT);
            due("its door alone", g.x.body(0, 6), 1 << door);
        }
    }

    private static void whatBars() {
        sentence("A CELL BARS if it is WALL, or a DOOR that is shut");
        Game g = new Game(4, 3, 1);
        g.x.wall(1);
        g.x.door(4, 9);
        g.doNow(0, STEP, RIGHT);
        due("wall", g.x.body(0, 0), 0);
        g.doNow(0, STEP, DOWN);
        due("shut door", g.x.body(0, 0), 0);
        g.opens(0, DOWN, 9);
        g.doNow(0, STEP, DOWN);
        due("open door", g.x.body(0, 0), 4);
        Game h = new Game(4, 3, 1);
        h.x.door(11, 9);
        h.x.plate(1, 0);
        h.x.wall(2);
        h.x.wall(2);
        h.doNow(0, STEP, RIGHT);
        due("plate", h.x.body(0, 0), 1);
        h.doNow(0, STEP, RIGHT);
        due("floor that was a wall", h.x.body(0, 0), 2);
    }

    private static void thingsAreNumbered() {
        sentence("THINGS are numbered 0 .. 15");
        for (int players = 1; players <= 4; players++) {
            Game g = new Game(5, 5, players);
            due("bodies", g.x.count(3), players);
            for (int n = players; n < 16; n++) {
                due("not there yet", g.x.thing(n, 0), NONE);
                due("the next number", g.x.place(POT, 12), n);
                due("there", g.x.thing(n, 0), POT);
            }
            due("the seventeenth", g.x.place(POT, 12), FULL);
            due("no thing 16", g.x.thing(16, 0), NONE);
        }
    }

    private static void bodiesOfPlayers() {
        sentence("player 0's in CELL 0, 1's in the last CELL, 2's in CELL W - 1, 3's in CELL (H - 1) times W");
        int[][] sizes = {{3, 3}, {3, 10}, {10, 3}, {10, 10}, {4, 7}};
        for (int[] s : sizes) {
            int[] cells = {0, s[0] * s[1] - 1, s[0] - 1, (s[1] - 1) * s[0]};
            for (int players = 1; players <= 4; players++) {
                Game g = new Game(s[0], s[1], players);
                for (int p = 0; p < players; p++) {
                    due("cell", g.x.body(p, 0), cells[p]);
                    due("its thing's cell", g.x.thing(p, 1), cells[p]);
                    due("its thing's kind", g.x.thing(p, 0), 0);
                }
                due("no player more", g.x.body(players, 0), NONE);
                due("no thing more", g.x.thing(players, 0), NONE);
            }
        }
        sentence("P 1 .. 4, 2 at first");
        due("players at first", new Judge().count(2), 2);
    }

    private static void kindsOfThings() {
        sentence("KINDS: 0 BODY (of a player), 1 BEAST, 2 WOLF, 3 POT, 4 TRAP, 5 STONE, 6 LAMP, 7 CROWN");
        Game g = new Game(10, 10, 4);
        for (int kind = 1; kind <= 7; kind++) g.places(kind, 40 + kind);
        sentence("The BODIES of players 0 .. P - 1 (P 1 .. 4, 2 at first) are THINGS 0 .. P - 1");
        for (int n = 0; n < 4; n++) due("a body", g.x.thing(n, 0), 0);
        for (int n = 4; n < 11; n++) due("thing " + n, g.x.thing(n, 0), n - 3);
        due("no thing 11", g.x.thing(11, 0), NONE);
    }

    private static void restKnownAndPointsAtFirst() {
        sentence("REST of a BODY: 0 at first. KNOWN of a player: a set of DOORS. POINTS: 0 at first");
        for (int players = 1; players <= 4; players++) {
            Game g = new Game(3, 3, players);
            for (int p = 0; p < players; p++) {
                due("rest", g.x.body(p, 3), 0);
                due("points", g.x.body(p, 5), 0);
                due("known", g.x.body(p, 6), 0);
            }
        }
        Game h = new Game(10, 3, 1);
        for (int i = 0; i < 8; i++) h.x.door(20 + i, 0);
        for (int i = 0; i < 8; i++) due("a plate", h.x.plate(1 + i, 7 - i), 3);
        int known = 0;
        for (int i = 0; i < 8; i++) {
            h.doNow(0, STEP, RIGHT);
            known += 1 << 7 - i;
            due("so many doors", h.x.body(0, 6), known);
        }
        due("all of them", known, 255);
    }

    private static void faceAndLifeAtFirst() {
        sentence("FACE 1. LIFE at first: BODY 5, BEAST 2, WOLF 3, others 0");
        Game g = new Game(10, 10, 4);
        for (int kind = BEAST; kind <= CROWN; kind++) g.x.place(kind, 40 + kind);
        for (int p = 0; p < 4; p++) {
            due("face", g.x.body(p, 2), 1);
            due("life", g.x.body(p, 1), 5);
            due("rest", g.x.body(p, 3), 0);
            due("carried", g.x.body(p, 4), -1);
            due("points", g.x.body(p, 5), 0);
            due("known", g.x.body(p, 6), 0);
        }
        int[] lives = {2, 3, 0, 0, 0, 0, 0};
        for (int i = 0; i < 7; i++) due("life of kind " + (i + 1), g.x.thing(4 + i, 2), lives[i]);
    }

    /** Player 1 in CELL 2 shoots player 0 in CELL 0 so often; both have gone nowhere else. */
    static Game shotDown(int losses) {
        Game g = new Game(3, 3, 2);
        g.doNow(1, STEP, UP);
        g.doNow(1, STEP, UP);
        for (int i = 0; i < losses; i++) {
            g.doNow(1, SHOT, LEFT);
            g.steps(2);
        }
        due("life is left", g.x.body(0, 1), 5 - losses);
        return g;
    }

    private static void standingNeedsLife() {
        sentence("STANDING: a BODY, BEAST or WOLF with LIFE above 0");
        Game g = shotDown(4);
        g.doNow(1, STEP, LEFT);
        g.doNow(1, STEP, LEFT);
        due("with 1 it stands in the way", g.x.body(1, 0), 1);
        due("and is told of", g.x.told(1, 0), 8);
        g.doNow(1, SHOT, LEFT);
        due("with 0", g.x.body(0, 1), 0);
        due("it isn't told of", g.x.told(1, 0), 0);
        g.doNow(1, STEP, LEFT);
        due("nor is it in the way", g.x.body(1, 0), 0);
        int[] lives = {2, 3};
        for (int kind = BEAST; kind <= WOLF; kind++) {
            Game h = new Game(10, 3, 1);
            h.x.place(kind, 6);
            for (int i = 0; i < lives[kind - 1]; i++) {
                due("it stands", h.x.thing(1, 2), lives[kind - 1] - i);
                h.doNow(0, SHOT, RIGHT);
                due("so it is hit", h.x.hit(h.x.now - 1, 0), 2);
                h.steps(2);
            }
            h.doNow(0, SHOT, RIGHT);
            due("with 0 it isn't", h.x.hit(h.x.now - 1, 0), 0);
        }
    }

    private static void lyingIsNotGone() {
        sentence("LYING: a POT, TRAP, STONE, LAMP or CROWN that is not GONE and that nobody carries");
        Game g = new Game(3, 3, 1);
        g.places(POT, 1);
        g.places(TRAP, 3);
        due("a pot lies", g.x.told(0, 1), 8);
        g.doNow(0, STEP, RIGHT);
        due("a gone one doesn't", g.x.told(0, 1), 8);
        g.doNow(0, STEP, LEFT);
        due("a gone one doesn't", g.x.told(0, 1), 0);
        g.doNow(0, STEP, DOWN);
        due("a trap takes 2", g.x.body(0, 1), 3);
        g.doNow(0, STEP, UP);
        g.doNow(0, STEP, DOWN);
        due("a gone one nothing", g.x.body(0, 1), 3);
    }

    private static void lyingIsNotCarried() {
        sentence("LYING: a POT, TRAP, STONE, LAMP or CROWN that is not GONE and that nobody carries");
        for (int kind = STONE; kind <= CROWN; kind++) {
            Game g = new Game(3, 3, 2);
            g.places(kind, 0);
            due("it lies", g.x.told(0, 0), 16);
            g.doNow(0, TAKE, 0);
            due("it doesn't", g.x.told(0, 0), 8);
            due("its cell", g.x.thing(2, 1), -2);
            g.doNow(0, STEP, RIGHT);
            due("nor where it lay", g.x.told(0, 0), 0);
            g.doNow(0, PUT, 0);
            due("it lies here", g.x.told(0, 1), 16);
        }
    }

    private static void oneIsCarriedAtMost() {
        sentence("A BODY carries one THING at most");
        Game g = new Game(3, 3, 1);
        g.places(STONE, 0, 0);
        g.does(0, TAKE, 0);
        g.sendsEarly(0, TAKE, 0, 0, 1);
        g.steps(1);
        due("the first", g.x.body(0, 4), 1);
        g.steps(1);
        due("still the first", g.x.body(0, 4), 1);
        due("the second lies", g.x.thing(2, 1), 0);
        due("nobody carries it", g.x.thing(2, 3), -1);
    }

    // ---- promises 1 and 2

    private static void newObject() {
        sentence("`RunJudge()`: As told in I to VI");
        Judge x = new Judge();
        int[] counts = {7, 7, 2, 2, 0, 0, 4, 1048, 0, 0, 0};
        for (int i = 0; i < counts.length; i++) due("count(" + i + ")", x.count(i), counts[i]);
        due("no door", x.open(0), NONE);
        for (int t = 0; t < 500; t += 499) due("no act", x.act(t, 1), NO_ACT);
        due("no hit taken back", x.taken(0, 0), NONE);
        for (int i = 0; i < 4; i++) due("no going back", x.back(i), 0);
        for (int kind = 0; kind < 2; kind++) {
            int[] watch = {0, 0, ONE, 0};
            for (int i = 0; i < 4; i++) due("the watch", x.watch(1, kind, i), watch[i]);
            due("fair", x.fair(1, kind), 0);
        }
        for (int c = 1; c < 48; c++) due("all is floor", x.wall(c), 1);
        for (int d = 0; d < 6; d++) due("tapes hold nothing", x.clear(d), 0);
        due("seq 0 is next", x.feed(1, bits(STEP, UP, 0, 0, 0)), 0);
        int[] digest = {0, 5, 1, 0, 0, 0, 48, 5, 1, 0, 0, 0, 0, 0, 0, 0};
        due("digest", x.digest(0), fold(7, digest));
    }

    private static void beginTakesAndRefuses() {
        sentence("how many CELLS. NONE: not 3 .. 10, not 1 .. 4");
        Judge x = new Judge();
        int[][] good = {{3, 3, 1}, {3, 3, 4}, {10, 10, 1}, {10, 10, 4}, {3, 10, 2}, {10, 3, 3}};
        for (int[] b : good) due("begin", x.begin(b[0], b[1], b[2]), b[0] * b[1]);
        int[] sizes = {2, 11, 0, -1, -3, MIN, MAX};
        for (int s : sizes) {
            due("columns " + s, x.begin(s, 5, 2), NONE);
            due("rows " + s, x.begin(5, s, 2), NONE);
        }
        int[] players = {0, 5, -1, MIN, MAX};
        for (int p : players) due("players " + p, x.begin(5, 5, p), NONE);
        due("columns stay", x.count(0), 10);
        due("rows stay", x.count(1), 3);
        due("players stay", x.count(2), 3);
    }

    private static Judge usedUp() {
        Game g = new Game(5, 5, 3);
        g.x.late(0);
        g.x.risk(ONE);
        g.x.door(1, 3);
        g.x.plate(0, 0);
        g.x.wall(12);
        g.places(CROWN, 0);
        g.places(WOLF, 13);
        g.doNow(0, TAKE, 0);
        g.does(2, SHOT, DOWN);
        g.opens(0, RIGHT, 3);
        for (int i = 0; i < 3; i++) g.doNow(0, STEP, UP);
        g.sendsEarly(0, STEP, UP, 0, 7);
        g.x.feed(0, 1);
        g.x.toss(5);
        return g.x;
    }

    private static void beginForgetsTheWorld() {
        sentence("All is as at first (TAPES stay), with these columns, rows and players");
        Judge x = usedUp();
        due("begin", x.begin(5, 5, 3), 25);
        Judge fresh = new Judge();
        fresh.begin(5, 5, 3);
        for (int i = 0; i < 11; i++) due("count(" + i + ")", x.count(i), fresh.count(i));
        for (int p = 0; p < 3; p++) {
            for (int i = 0; i < 7; i++) due("body", x.body(p, i), fresh.body(p, i));
            due("letter", x.letter(p, 0), fresh.letter(p, 0));
        }
        due("things", x.thing(3, 0), NONE);
        due("doors", x.open(0), NONE);
        due("digest", x.digest(0), fresh.digest(0));
        for (int c = 0; c < 25; c++) due("map", x.wall(c), fresh.wall(c));
    }

    /** THINGS 1 to 3 were a beast, a stone and a crown, and are BODIES now. */
    private static void beginForgetsKinds() {
        sentence("All is as at first (TAPES stay), with these columns, rows and players");
        Game g = new Game(3, 3, 1);
        g.places(BEAST, 4);
        g.places(STONE, 0);
        g.places(CROWN, 0);
        g.doNow(0, TAKE, 0);
        due("begin", g.x.begin(3, 3, 4), 9);
        for (int n = 0; n < 4; n++) {
            due("kind of " + n, g.x.thing(n, 0), 0);
            due("carrier of " + n, g.x.thing(n, 3), -1);
            due("load of " + n, g.x.body(n, 4), -1);
            due("life of " + n, g.x.thing(n, 2), 5);
        }
        due("told of a body", g.x.told(0, 8), 8);
    }

    private static void beginForgetsTheRun() {
        sentence("All is as at first (TAPES stay), with these columns, rows and players");
        Judge x = usedUp();
        due("begin", x.begin(5, 5, 3), 25);
        for (int t = 0; t < 10; t++) {
            for (int p = 0; p < 3; p++) due("act", x.act(t, p), NO_ACT);
            due("hit", x.hit(t, 0), NONE);
        }
        for (int i = 0; i < 4; i++) due("back", x.back(i), 0);
        due("not started", x.late(3), 4);
        for (int p = 0; p < 3; p++) due("seq 0 is next", x.feed(p, bits(STEP, UP, 0, 0, 0)), 0);
        for (int t = 1; t < 12; t++) due("now", x.step(), t);
        for (int t = 0; t < 11; t++) due("no hit", x.hit(t, 2), 0);
        due("digest", x.digest(11), x.replay(11));
    }

    private static void beginForgetsTheWatch() {
        sentence("All is as at first (TAPES stay), with these columns, rows and players");
        Judge x = usedUp();
        due("told at the greatest risk", x.watch(0, 1, 3) > 0 ? 1 : 0, 1);
        due("begin", x.begin(5, 5, 3), 25);
        int[] want = {0, 0, ONE, 0};
        for (int kind = 0; kind < 2; kind++) {
            for (int i = 0; i < 4; i++) due("watch", x.watch(0, kind, i), want[i]);
            due("fair", x.fair(0, kind), 0);
        }
        x.late(0);
        for (int t = 0; t < 2; t++) {
            x.feed(0, bits(STEP, UP, 0, t, t));
            x.step();
        }
        due("no gap is left from then", x.watch(0, 1, 0), 0);
        Game g = new Game(3, 3, 3);
        g.x.late(1);
        g.doNow(2, SHOT, LEFT);
        g.stepsTo(4);
        due("a late shot", g.send(2, SHOT, LEFT, 0, 3), 1);
        g.steps(2);
        due("hits in time and late", g.x.fair(2, 0) * 10 + g.x.fair(2, 1), 11);
        g.x.begin(3, 3, 3);
        due("no hits", g.x.fair(2, 0) * 10 + g.x.fair(2, 1), 0);
    }

    private static void tapesStay() {
        sentence("All is as at first (TAPES stay), with these columns, rows and players");
        Judge x = new Judge();
        for (int sort = 1; sort <= 4; sort++) {
            x.tape(sort, sort, 2);
            x.put(sort, 1, 70 + sort);
        }
        int cells = x.view(5, 0);
        due("begin", x.begin(3, 3, 1), 9);
        for (int sort = 1; sort <= 4; sort++) {
            due("the row stays", x.at(sort, 1), 70 + sort);
            due("its sort stays", x.clear(sort), sort);
        }
        due("the view stays", x.toss(5), cells);
        due("of that world", x.kept(5, 48), -1);
        due("of its sort", x.clear(5), 5);
        due("nothing stays nothing", x.clear(0), 0);
    }

    // ---- promise 3

    private static void wallGoesToAndFro() {
        sentence("A FLOOR becomes WALL, a WALL FLOOR: its MAP then");
        Judge x = new Judge();
        for (int i = 0; i < 3; i++) {
            due("a wall", x.wall(1), 1);
            due("told", x.told(0, 1), 1);
            due("floor", x.wall(1), 0);
            due("told", x.told(0, 1), 0);
        }
    }

    private static void wallHasCells() {
        sentence("NONE: no such CELL; STARTED: NOW is above 0, or there is an ACT");
        Judge x = new Judge();
        x.begin(4, 3, 1);
        due("the last cell", x.wall(11), 1);
        int[] none = {-1, 12, MIN, MAX};
        for (int c : none) due("cell " + c, x.wall(c), NONE);
        x.begin(3, 3, 2);
        due("a cell of the world ahead of this", x.wall(9), NONE);
    }

    private static void wallIsStarted() {
        sentence("STARTED: NOW is above 0, or there is an ACT");
        Judge x = new Judge();
        x.feed(0, 1);
        x.feed(0, bits(STEP, UP, 0, 3, 0));
        due("what is refused starts nothing", x.wall(1), 1);
        due("an act, for a later tick, a wait", x.feed(1, bits(WAIT, 0, 0, 2, 0)), 0);
        due("now is 0, but there is an act", x.wall(2), STARTED);
        Judge y = new Judge();
        y.step();
        due("now is 1, without an act", y.wall(2), STARTED);
        y.begin(7, 7, 2);
        due("begun anew", y.wall(2), 1);
    }

    private static void wallOfAnotherKind() {
        sentence("KIND: it is neither, or a THING is in it");
        Game g = new Game(7, 7, 4);
        g.x.door(10, 0);
        g.x.plate(11, 0);
        due("a door", g.x.wall(10), KIND);
        due("a plate", g.x.wall(11), KIND);
        int[] bodies = {0, 48, 6, 42};
        for (int c : bodies) due("a body", g.x.wall(c), KIND);
        for (int kind = BEAST; kind <= CROWN; kind++) {
            g.places(kind, 20 + kind);
            due("a thing of kind " + kind, g.x.wall(20 + kind), KIND);
        }
        due("beside them", g.x.wall(20), 1);
    }

    // ---- promise 4

    private static void doorHasCellsAndWords() {
        sentence("A FLOOR becomes a DOOR with a WORD: its number. NONE: no such CELL, WORD");
        Judge x = new Judge();
        x.begin(4, 3, 1);
        due("the last cell, the first word", x.door(11, 0), 0);
        due("the last word", x.door(1, 15), 1);
        due("told a door", x.told(0, 1), 2);
        int[] cells = {-1, 12, MIN, MAX};
        for (int c : cells) due("cell " + c, x.door(c, 3), NONE);
        int[] words = {-1, 16, MIN, MAX};
        for (int w : words) due("word " + w, x.door(2, w), NONE);
        due("no more doors", x.count(4), 2);
        due("still floor", x.wall(2), 1);
    }

    private static void doorIsStarted() {
        sentence("NONE: no such CELL, WORD; STARTED");
        Judge x = new Judge();
        x.feed(0, 1);
        due("not started", x.door(1, 0), 0);
        x.feed(0, bits(WAIT, 0, 0, 0, 0));
        due("an act", x.door(2, 0), STARTED);
        Judge y = new Judge();
        y.step();
        due("a tick", y.door(2, 0), STARTED);
    }

    private static void doorOfAnotherKind() {
        sentence("KIND: it is no FLOOR, or a THING is in it; FULL: 8 DOORS");
        Game g = new Game(7, 7, 4);
        g.x.door(10, 0);
        g.x.plate(11, 0);
        g.x.wall(12);
        due("a door", g.x.door(10, 0), KIND);
        due("a plate", g.x.door(11, 0), KIND);
        due("a wall", g.x.door(12, 0), KIND);
        int[] bodies = {0, 48, 6, 42};
        for (int c : bodies) due("a body", g.x.door(c, 0), KIND);
        for (int kind = BEAST; kind <= CROWN; kind++) {
            g.places(kind, 20 + kind);
            due("a thing of kind " + kind, g.x.door(20 + kind, 0), KIND);
        }
        g.x.wall(12);
        due("floor again", g.x.door(12, 0), 1);
    }

    private static void doorsAreFull() {
        sentence("KIND: it is no FLOOR, or a THING is in it; FULL: 8 DOORS");
        Judge x = new Judge();
        for (int i = 0; i < 8; i++) due("door", x.door(10 + i, 15 - i), i);
        due("the ninth", x.door(1, 0), FULL);
        due("still 8", x.count(4), 8);
        due("still floor", x.told(0, 1), 0);
        x.begin(7, 7, 2);
        due("begun anew", x.door(1, 0), 0);
    }

    // ---- promise 5

    private static void plateHasCellsAndDoors() {
        sentence("A FLOOR becomes a PLATE of a DOOR: 3. NONE: no such CELL, DOOR");
        Judge x = new Judge();
        x.begin(4, 3, 1);
        due("no door yet", x.plate(1, 0), NONE);
        x.door(5, 0);
        due("door 0", x.plate(1, 0), 3);
        due("told a plate", x.told(0, 1), 3);
        due("no door 1", x.plate(2, 1), NONE);
        x.door(6, 0);
        due("door 1, the last cell", x.plate(11, 1), 3);
        int[] cells = {-1, 12, MIN, MAX};
        for (int c : cells) due("cell " + c, x.plate(c, 0), NONE);
        int[] doors = {-1, 2, 8, MIN, MAX};
        for (int d : doors) due("door " + d, x.plate(2, d), NONE);
        due("still floor", x.wall(2), 1);
    }

    private static void plateIsStarted() {
        sentence("NONE: no such CELL, DOOR; STARTED; KIND: it is no FLOOR");
        Judge x = new Judge();
        x.door(5, 0);
        x.feed(0, 1);
        due("not started", x.plate(1, 0), 3);
        x.feed(1, bits(WAIT, 0, 0, 1, 0));
        due("an act", x.plate(2, 0), STARTED);
        Judge y = new Judge();
        y.door(5, 0);
        y.step();
        due("a tick", y.plate(2, 0), STARTED);
    }

    private static void plateOfAnotherKind() {
        sentence("KIND: it is no FLOOR");
        Game g = new Game(7, 7, 4);
        g.x.door(10, 0);
        g.x.wall(12);
        due("a plate", g.x.plate(11, 0), 3);
        due("a plate again", g.x.plate(11, 0), KIND);
        due("a door", g.x.plate(10, 0), KIND);
        due("a wall", g.x.plate(12, 0), KIND);
        int[] bodies = {0, 48, 6, 42};
        for (int c : bodies) due("a body may be in it", g.x.plate(c, 0), 3);
        for (int kind = BEAST; kind <= CROWN; kind++) {
            g.places(kind, 20 + kind);
            due("a thing of kind " + kind + " may be in it", g.x.plate(20 + kind, 0), 3);
        }
    }

    // ---- promise 6

    private static void placeHasKindsAndCells() {
        sentence("A THING of a KIND (1 .. 7) is put into a CELL: its number. NONE: no such KIND, CELL");
        Judge x = new Judge();
        x.begin(4, 3, 1);
        due("the first kind, the last cell", x.place(1, 11), 1);
        due("the last kind, the first cell", x.place(7, 0), 2);
        int[] kinds = {0, 8, -1, MIN, MAX};
        for (int k : kinds) due("kind " + k, x.place(k, 5), NONE);
        int[] cells = {-1, 12, MIN, MAX};
        for (int c : cells) due("cell " + c, x.place(POT, c), NONE);
        due("no more things", x.count(3), 3);
    }

    private static void placeIsStarted() {
        sentence("NONE: no such KIND, CELL; STARTED");
        Judge x = new Judge();
        x.feed(0, 1);
        due("not started", x.place(POT, 5), 2);
        x.feed(1, bits(WAIT, 0, 0, 1, 0));
        due("an act", x.place(POT, 5), STARTED);
        Judge y = new Judge();
        y.step();
        due("a tick", y.place(POT, 5), STARTED);
    }

    private static void placeOfAnotherKind() {
        sentence("KIND: the CELL is WALL or DOOR, or (KINDS 1, 2) something STANDS in it");
        Judge x = new Judge();
        x.wall(10);
        x.door(11, 0);
        x.plate(12, 0);
        for (int kind = BEAST; kind <= CROWN; kind++) {
            due("kind " + kind + " in a wall", x.place(kind, 10), KIND);
            due("kind " + kind + " in a door", x.place(kind, 11), KIND);
        }
        due("on a plate", x.place(BEAST, 12), 2);
        due("on a plate where one stands", x.place(CROWN, 12), 3);
        x.wall(10);
        due("where a wall was", x.place(WOLF, 10), 4);
    }

    private static void placeWhereSomethingStands() {
        sentence("KIND: the CELL is WALL or DOOR, or (KINDS 1, 2) something STANDS in it");
        Game g = new Game(7, 7, 2);
        g.places(BEAST, 20);
        g.places(WOLF, 21);
        int[] standing = {0, 48, 20, 21};
        for (int c : standing) {
            due("a beast", g.x.place(BEAST, c), KIND);
            due("a wolf", g.x.place(WOLF, c), KIND);
        }
        for (int kind = POT; kind <= CROWN; kind++) due("kind " + kind + " may lie there", g.x.place(kind, 20), 1 + kind);
        for (int kind = POT; kind <= CROWN; kind++) g.places(kind, 30);
        due("a beast where all kinds lie", g.x.place(BEAST, 30), 14);
    }

    private static void placesAreFull() {
        sentence("FULL: 16 THINGS");
        Judge x = new Judge();
        x.wall(10);
        for (int n = 2; n < 16; n++) due("place", x.place(POT, 5), n);
        due("the seventeenth", x.place(POT, 5), FULL);
        due("a beast", x.place(BEAST, 6), FULL);
        due("still 16", x.count(3), 16);
        x.begin(7, 7, 1);
        due("begun anew", x.place(POT, 5), 1);
    }

    // ---- promises 7 and 8

    private static void lateTakesAndRefuses() {
        sentence("LATE becomes 0 .. 8: what it was. NONE; STARTED");
        Judge x = new Judge();
        int was = 4;
        for (int ticks = 0; ticks <= 8; ticks++) {
            due("late(" + ticks + ")", x.late(ticks), was);
            due("it is", x.count(6), ticks);
            was = ticks;
        }
        int[] none = {-1, 9, MIN, MAX};
        for (int ticks : none) due("late(" + ticks + ")", x.late(ticks), NONE);
        due("it stays", x.count(6), 8);
    }

    private static void lateIsStarted() {
        sentence("LATE becomes 0 .. 8: what it was. NONE; STARTED");
        Judge x = new Judge();
        x.feed(0, 1);
        due("not started", x.late(5), 4);
        x.feed(0, bits(WAIT, 0, 0, 2, 0));
        due("an act", x.late(6), STARTED);
        Judge y = new Judge();
        y.step();
        due("a tick", y.late(6), STARTED);
        due("it stays", y.count(6), 4);
    }

    private static void riskTakesAndRefuses() {
        sentence("RISK becomes 0 .. 2^20: what it was. NONE");
        Judge x = new Judge();
        due("the least", x.risk(0), 1048);
        due("the most", x.risk(1048576), 0);
        int[] none = {-1, 1048577, MIN, MAX};
        for (int parts : none) due("risk(" + parts + ")", x.risk(parts), NONE);
        due("it stays", x.count(7), 1048576);
    }

    private static void riskIsNeverStarted() {
        sentence("RISK becomes 0 .. 2^20: what it was. NONE");
        Judge x = new Judge();
        x.feed(0, bits(WAIT, 0, 0, 2, 0));
        due("behind an act", x.risk(7), 1048);
        x.step();
        due("behind a tick", x.risk(8), 7);
        due("it is", x.count(7), 8);
    }
}
