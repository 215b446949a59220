/** The boundary cases of part VI and of promises 27 to 36, a test for each sentence. */
public final class EdgesOfTapesTest extends Check {
    public static void main(String[] args) {
        tapesAtFirst();
        tapeHasTapesAndSorts();
        tapeHasSizes();
        tapeIsAllNought();
        tapeTakesThePlace();
        viewHasTapesAndPlayers();
        viewTellsOfSoMany();
        viewIsOfThen();
        clearTellsWhatItHeld();
        putHasPlaces();
        putNarrows();
        putRefuses();
        atHasPlaces();
        atThrows();
        copyToTheLast();
        copyOfNone();
        copyOntoItself();
        copyOfEverySort();
        copyRefusesTapes();
        copyRefusesSorts();
        copyRefusesPlaces();
        playToTheLast();
        playOfNone();
        playUpToTheFirstRefused();
        playBeyondTheRow();
        playAheadOfTheRow();
        playRefuses();
        playWrapsSeqs();
        keptHasCells();
        keptOfAnotherWorld();
        keptRefuses();
        tossOfTheLiving();
        tossOfTheDead();
        tossRefuses();
        countOfTheWorld();
        countOfLetters();
        countOfTheHostsRefusals();
        countHasNumbers();
        end("EdgesOfTapesTest");
    }

    private static final int[] NO_TAPES = {-1, 6, MIN, MAX};

    /** TAPES 1 to 4 hold rows of 3 of that sort, TAPE 5 a VIEW, TAPE 0 nothing. */
    private static Judge ofAllSorts() {
        Judge x = new Judge();
        for (int sort = 1; sort <= 4; sort++) due("a row", x.tape(sort, sort, 3), 3);
        due("a view", x.view(5, 0), 25);
        return x;
    }

    // ---- promise 27

    private static void tapesAtFirst() {
        sentence("TAPES 0 .. 5 each hold nothing (at first)");
        Judge x = new Judge();
        for (int d = 0; d < 6; d++) {
            due("put", x.put(d, 0, 1), NOTHING);
            due("kept", x.kept(d, 0), NOTHING);
            due("clear", x.clear(d), 0);
        }
        for (int d : NO_TAPES) due("no tape " + d, x.clear(d), NONE);
    }

    private static void tapeHasTapesAndSorts() {
        sentence("NONE: no such TAPE, sort, n above 80; SIZE");
        Judge x = new Judge();
        for (int d = 0; d < 6; d++) due("tape " + d, x.tape(d, 1, 2), 2);
        for (int d : NO_TAPES) due("tape " + d, x.tape(d, 1, 2), NONE);
        int[] sorts = {0, 5, -1, MIN, MAX};
        for (int s : sorts) due("sort " + s, x.tape(0, s, 2), NONE);
        for (int s = 1; s <= 4; s++) {
            due("sort " + s, x.tape(0, s, 2), 2);
            due("it is of that sort", x.clear(0), s);
        }
    }

    private static void tapeHasSizes() {
        sentence("NONE: no such TAPE, sort, n above 80; SIZE");
        Judge x = new Judge();
        for (int sort = 1; sort <= 4; sort++) {
            due("0", x.tape(0, sort, 0), 0);
            due("1", x.tape(1, sort, 1), 1);
            due("80", x.tape(2, sort, 80), 80);
            due("81", x.tape(3, sort, 81), NONE);
            due("the most", x.tape(3, sort, MAX), NONE);
            due("-1", x.tape(3, sort, -1), SIZE);
            due("the least", x.tape(3, sort, MIN), SIZE);
            due("nothing is held there", x.clear(3), 0);
            due("a row without places", x.put(0, 0, 1), PLACE);
            due("a row with one", x.put(1, 0, 1), 1);
            due("none behind it", x.put(1, 1, 1), PLACE);
            due("the 80th", x.put(2, 79, 1), 1);
            due("none behind it", x.put(2, 80, 1), PLACE);
        }
    }

    private static void tapeIsAllNought() {
        sentence("TAPE d gets a row of n elements, all 0, of a sort (1 .. 4): n");
        Judge x = new Judge();
        x.tape(0, 4, 80);
        for (int i = 0; i < 80; i++) x.put(0, i, -1);
        for (int sort = 1; sort <= 4; sort++) {
            due("anew", x.tape(0, sort, 80), 80);
            for (int i = 0; i < 80; i++) due("place " + i, x.at(0, i), 0);
        }
    }

    private static void tapeTakesThePlace() {
        sentence("TAPE d gets a row of n elements, all 0, of a sort (1 .. 4): n");
        Judge x = ofAllSorts();
        due("instead of a view", x.tape(5, 2, 4), 4);
        due("no view more", x.kept(5, 0), CAST);
        due("longer", x.tape(1, 3, 5), 5);
        due("the last", x.put(1, 4, 9), 1);
        due("shorter", x.tape(1, 3, 1), 1);
        due("no second place", x.put(1, 1, 9), PLACE);
        due("longer again", x.tape(1, 3, 5), 5);
        due("all 0", x.at(1, 4), 0);
        due("the others stay", x.clear(2) * 100 + x.clear(3) * 10 + x.clear(4), 234);
    }

    // ---- promises 28 and 29

    private static void viewHasTapesAndPlayers() {
        sentence("TAPE d gets the VIEW of player p at NOW: on how many CELLS it tells. NONE: no such TAPE, player");
        for (int players = 1; players <= 4; players++) {
            Game g = new Game(3, 3, players);
            for (int d = 0; d < 6; d++) due("tape " + d, g.x.view(d, players - 1), 9);
            for (int d : NO_TAPES) due("tape " + d, g.x.view(d, 0), NONE);
            int[] nobody = {-1, players, 4, MIN, MAX};
            for (int p : nobody) due("player " + p, g.x.view(0, p), NONE);
        }
    }

    private static void viewTellsOfSoMany() {
        sentence("TAPE d gets the VIEW of player p at NOW: on how many CELLS it tells");
        Game g = new Game(10, 10, 4);
        for (int p = 0; p < 4; p++) due("25 of 100", g.x.view(p, p), 25);
        for (int p = 0; p < 4; p++) {
            for (int c = 0; c < 100; c++) due("as told, cell " + c, g.x.kept(p, c), farFrom(p, c) > 4 ? -1 : farFrom(p, c) == 0 ? 8 : 0);
        }
        Game h = new Game(3, 3, 1);
        h.walls(1, 3, 4);
        due("itself and those beside it", h.x.view(0, 0), 4);
        Game k = new Game(10, 10, 1);
        k.places(LAMP, 0);
        k.doNow(0, TAKE, 0);
        due("with a lamp", k.x.view(0, 0), 49);
    }

    private static int farFrom(int p, int cell) {
        int dx = p == 1 || p == 2 ? 9 - cell % 10 : cell % 10;
        int dy = p == 1 || p == 3 ? 9 - cell / 10 : cell / 10;
        return Math.max(dx, dy);
    }

    private static void viewIsOfThen() {
        sentence("or a VIEW (5): what a player is told at a STATE");
        Game g = new Game(3, 3, 1);
        g.places(POT, 1);
        due("before", g.x.view(0, 0), 9);
        g.doNow(0, STEP, RIGHT);
        due("behind", g.x.view(1, 0), 9);
        due("then the body was in 0", g.x.kept(0, 0), 8);
        due("and a pot in 1", g.x.kept(0, 1), 8);
        due("now nothing is in 0", g.x.kept(1, 0), 0);
        due("and the body in 1", g.x.kept(1, 1), 8);
        g.steps(2);
        due("going back", g.send(0, STEP, DOWN, 0, 1), 2);
        due("changes no view", g.x.kept(1, 1), 8);
        due("anew", g.x.view(1, 0), 9);
        due("the body in 4", g.x.kept(1, 4) * 10 + g.x.kept(1, 1), 80);
    }

    private static void clearTellsWhatItHeld() {
        sentence("TAPE d holds nothing: what it held (0 nothing, 1 .. 5). NONE: no such TAPE");
        Judge x = ofAllSorts();
        for (int d = 0; d < 6; d++) due("clear(" + d + ")", x.clear(d), d);
        for (int d = 0; d < 6; d++) due("nothing now", x.clear(d), 0);
        for (int d : NO_TAPES) due("clear(" + d + ")", x.clear(d), NONE);
        x.tape(0, 3, 0);
        due("a row without elements is a row", x.clear(0), 3);
    }

    // ---- promises 30 and 31

    private static void putHasPlaces() {
        sentence("Element i of the row on TAPE d becomes v, narrowed to its sort: 1");
        Judge x = ofAllSorts();
        for (int d = 1; d <= 4; d++) {
            for (int i = 0; i < 3; i++) due("place " + i, x.put(d, i, 10 * d + i), 1);
            int[] none = {-1, 3, MIN, MAX};
            for (int i : none) due("place " + i, x.put(d, i, 99), PLACE);
            for (int i = 0; i < 3; i++) due("it is there", x.at(d, i), 10 * d + i);
        }
    }

    private static void putNarrows() {
        sentence("Element i of the row on TAPE d becomes v, narrowed to its sort: 1");
        Judge x = ofAllSorts();
        long[] values = {0, -1, 127, 128, -128, -129, 255, 256, 32767, 32768, -32768, -32769, 65535, 65536,
            2147483647L, 2147483648L, -2147483648L, -2147483649L, 4294967295L, 4294967296L, Long.MAX_VALUE, Long.MIN_VALUE};
        for (long v : values) {
            for (int d = 1; d <= 4; d++) due("put " + v, x.put(d, 1, v), 1);
            due(v + " as a byte", x.at(1, 1), (byte) v);
            due(v + " as a short", x.at(2, 1), (short) v);
            due(v + " as an int", x.at(3, 1), (int) v);
            due(v + " as a long", x.at(4, 1), v);
        }
        for (int d = 1; d <= 4; d++) due("its neighbours stay", x.at(d, 0) + x.at(d, 2), 0);
    }

    private static void putRefuses() {
        sentence("NONE: no such TAPE; NOTHING; CAST; PLACE");
        Judge x = ofAllSorts();
        for (int d : NO_TAPES) due("tape " + d, x.put(d, 0, 1), NONE);
        due("nothing", x.put(0, 0, 1), NOTHING);
        due("a view", x.put(5, 0, 1), CAST);
        due("the view stays", x.kept(5, 0), 8);
        due("nothing stays nothing", x.clear(0), 0);
    }

    /** 0: nothing is thrown; 1 IllegalArgumentException, 2 IllegalStateException, 3 another. */
    private static int thrown(Judge x, int d, int i) {
        try {
            x.at(d, i);
            return 0;
        } catch (RuntimeException e) {
            return e.getClass() == IllegalArgumentException.class ? 1 : e.getClass() == IllegalStateException.class ? 2 : 3;
        }
    }

    private static void atHasPlaces() {
        sentence("Element i of the row on TAPE d. IllegalArgumentException: no such TAPE");
        Judge x = ofAllSorts();
        for (int d = 1; d <= 4; d++) {
            for (int i = 0; i < 3; i++) due("place " + i, thrown(x, d, i), 0);
            int[] none = {-1, 3, MIN, MAX};
            for (int i : none) due("place " + i, thrown(x, d, i), 2);
        }
        x.tape(0, 1, 80);
        due("place 79", thrown(x, 0, 79), 0);
        due("place 80", thrown(x, 0, 80), 2);
        x.tape(0, 1, 0);
        due("no place at all", thrown(x, 0, 0), 2);
    }

    private static void atThrows() {
        sentence("IllegalArgumentException: no such TAPE; IllegalStateException: it holds no row, or that has no such place");
        Judge x = ofAllSorts();
        for (int d : NO_TAPES) {
            due("tape " + d, thrown(x, d, 0), 1);
            due("tape " + d + ", no such place", thrown(x, d, -1), 1);
        }
        due("nothing", thrown(x, 0, 0), 2);
        due("nothing, no such place", thrown(x, 0, -1), 2);
        due("a view", thrown(x, 5, 0), 2);
        due("a view, no such place", thrown(x, 5, 80), 2);
        due("all is as it was", x.clear(5) * 10 + x.clear(0), 50);
    }

    // ---- promise 32

    private static Judge twoRows(int sort, int n, int m) {
        Judge x = new Judge();
        x.tape(0, sort, n);
        x.tape(1, sort, m);
        for (int i = 0; i < n; i++) x.put(0, i, i + 1);
        for (int i = 0; i < m; i++) x.put(1, i, 100 + i);
        return x;
    }

    private static void row(String what, Judge x, int d, long... want) {
        for (int i = 0; i < want.length; i++) due(what + ", place " + i, x.at(d, i), want[i]);
    }

    private static void copyToTheLast() {
        sentence("n elements of the row on TAPE d from place i on go to the row on TAPE e from place j on (as they all were before): n");
        Judge x = twoRows(3, 4, 3);
        due("from the end to the start", x.copy(0, 2, 1, 0, 2), 2);
        row("one", x, 1, 3, 4, 102);
        row("the other stays", x, 0, 1, 2, 3, 4);
        due("from the start to the end", x.copy(0, 0, 1, 1, 2), 2);
        row("one", x, 1, 3, 1, 2);
        due("a whole row", x.copy(1, 0, 0, 1, 3), 3);
        row("the other", x, 0, 1, 3, 1, 2);
        Judge y = twoRows(1, 80, 80);
        due("all 80", y.copy(0, 0, 1, 0, 80), 80);
        for (int i = 0; i < 80; i++) due("place " + i, y.at(1, i), i + 1);
        due("81", y.copy(0, 0, 1, 0, 81), PLACE);
    }

    private static void copyOfNone() {
        sentence("PLACE: n, i or j is below 0, or a row has not so many");
        Judge x = twoRows(3, 4, 3);
        due("none, from the start", x.copy(0, 0, 1, 0, 0), 0);
        due("none, at both ends", x.copy(0, 4, 1, 3, 0), 0);
        due("none, behind the one's end", x.copy(0, 5, 1, 3, 0), PLACE);
        due("none, behind the other's end", x.copy(0, 4, 1, 4, 0), PLACE);
        due("none, ahead of the one", x.copy(0, -1, 1, 0, 0), PLACE);
        due("none, ahead of the other", x.copy(0, 0, 1, -1, 0), PLACE);
        x.tape(2, 3, 0);
        due("none, of an empty row", x.copy(2, 0, 0, 0, 0), 0);
        due("one, of an empty row", x.copy(2, 0, 0, 0, 1), PLACE);
        due("one, to an empty row", x.copy(0, 0, 2, 0, 1), PLACE);
        row("all as it was", x, 0, 1, 2, 3, 4);
        row("all as it was", x, 1, 100, 101, 102);
    }

    private static void copyOntoItself() {
        sentence("(as they all were before)");
        for (int sort = 1; sort <= 4; sort++) {
            Judge x = twoRows(sort, 5, 1);
            due("upwards", x.copy(0, 0, 0, 1, 4), 4);
            row("upwards", x, 0, 1, 1, 2, 3, 4);
            Judge y = twoRows(sort, 5, 1);
            due("downwards", y.copy(0, 1, 0, 0, 4), 4);
            row("downwards", y, 0, 2, 3, 4, 5, 5);
            due("onto the same", y.copy(0, 0, 0, 0, 5), 5);
            row("onto the same", y, 0, 2, 3, 4, 5, 5);
        }
    }

    private static void copyOfEverySort() {
        sentence("CAST: one is no row, or they are of two sorts");
        for (int from = 1; from <= 4; from++) {
            for (int to = 1; to <= 4; to++) {
                Judge x = new Judge();
                x.tape(0, from, 2);
                x.tape(1, to, 2);
                x.put(0, 1, 77);
                due("sorts " + from + " and " + to, x.copy(0, 1, 1, 0, 1), from == to ? 1 : CAST);
                due("what is there", x.at(1, 0), from == to ? 77 : 0);
            }
        }
    }

    private static void copyRefusesTapes() {
        sentence("NONE: no such TAPE; NOTHING: of either");
        Judge x = ofAllSorts();
        for (int d : NO_TAPES) {
            due("from tape " + d, x.copy(d, 0, 1, 0, 1), NONE);
            due("to tape " + d, x.copy(1, 0, d, 0, 1), NONE);
        }
        due("from nothing", x.copy(0, 0, 1, 0, 1), NOTHING);
        due("to nothing", x.copy(1, 0, 0, 0, 1), NOTHING);
        due("from nothing to nothing", x.copy(0, 0, 0, 0, 0), NOTHING);
        due("it holds nothing still", x.clear(0), 0);
    }

    private static void copyRefusesSorts() {
        sentence("CAST: one is no row, or they are of two sorts");
        Judge x = ofAllSorts();
        for (int d = 1; d <= 4; d++) {
            due("from a view", x.copy(5, 0, d, 0, 1), CAST);
            due("to a view", x.copy(d, 0, 5, 0, 1), CAST);
        }
        x.view(0, 1);
        due("from a view to a view", x.copy(5, 0, 0, 0, 1), CAST);
        due("the views stay", x.kept(5, 0) * 100 + x.kept(0, 48), 808);
    }

    private static void copyRefusesPlaces() {
        sentence("PLACE: n, i or j is below 0, or a row has not so many");
        int[][] places = {{-1, 0, 1}, {0, -1, 1}, {0, 0, -1}, {4, 0, 1}, {0, 3, 1}, {1, 0, 4}, {0, 1, 3}, {3, 0, 2},
            {0, 2, 2}, {0, 0, 4}, {0, 0, MAX}, {MAX, 0, 1}, {0, MAX, 1}, {MIN, 0, 1}, {0, MIN, 1}, {0, 0, MIN},
            {MAX, MAX, MAX}, {1, 1, MAX}, {MAX, 0, MAX}, {MIN, MIN, MIN}, {-1, 0, 0}, {2, 2, -1}, {4, 3, -1}};
        for (int[] p : places) {
            Judge x = twoRows(2, 4, 3);
            due("copy " + p[0] + ", " + p[1] + ", " + p[2], x.copy(0, p[0], 1, p[1], p[2]), PLACE);
            row("the one stays", x, 0, 1, 2, 3, 4);
            row("the other stays", x, 1, 100, 101, 102);
        }
    }

    // ---- promise 33

    /** So many WAITS from tick 0 on, on TAPE 0, with LATE 8 and NOW 8. */
    private static Judge letters(int n) {
        Judge x = new Judge();
        x.late(8);
        for (int t = 0; t < 8; t++) x.step();
        x.tape(0, 4, n);
        for (int t = 0; t < n; t++) x.put(0, t, bits(WAIT, 0, 0, t, t));
        return x;
    }

    private static void playToTheLast() {
        sentence("Letters of player p from the row of longs on TAPE d, n of them from place i on, are fed one after the other");
        Judge x = letters(11);
        due("all of them", x.play(0, 0, 11, 0), 11);
        due("taken", x.count(8), 11);
        for (int t = 0; t < 11; t++) due("act " + t, x.act(t, 0), 0);
        due("eight goings back", x.back(0), 8);
        due("none of the other", x.act(0, 1), NO_ACT);
        Judge y = letters(11);
        due("the first three", y.play(0, 0, 3, 1), 3);
        due("the fourth", y.play(0, 3, 1, 1), 1);
        due("the last seven", y.play(0, 4, 7, 1), 7);
        due("taken", y.count(8), 11);
        due("refused", y.count(9) + y.count(10), 0);
    }

    private static void playOfNone() {
        sentence("NONE: no such TAPE, player, n is not 0 .. 80");
        Judge x = letters(3);
        int[] places = {0, 3, 4, 80, -1, MIN, MAX};
        for (int i : places) due("none from place " + i, x.play(0, i, 0, 0), 0);
        x.tape(1, 4, 0);
        due("none of an empty row", x.play(1, 0, 0, 0), 0);
        due("one of an empty row", x.play(1, 0, 1, 0), PLACE);
        due("none is taken", x.count(8), 0);
        due("none is refused", x.count(9), 0);
    }

    private static void playUpToTheFirstRefused() {
        sentence("up to the first that is refused: how many are taken");
        for (int bad = 0; bad < 5; bad++) {
            Judge x = letters(5);
            x.put(0, bad, 1);
            due("up to " + bad, x.play(0, 0, 5, 0), bad);
            due("taken", x.count(8), bad);
            due("one refused", x.count(9), 1);
            for (int t = 0; t < 5; t++) due("act " + t, x.act(t, 0), t < bad ? 0 : NO_ACT);
            due("it is no refusal of the host's", x.count(10), 0);
        }
        Judge y = letters(3);
        y.put(0, 2, 1);
        due("refused ahead of the row's end", y.play(0, 0, 80, 0), 2);
        due("no refusal of the host's", y.count(10), 0);
    }

    private static void playBeyondTheRow() {
        sentence("PLACE: the row ends ahead of a letter that is wanted (those ahead of it are taken all the same)");
        int[][] wanted = {{0, 4, 3}, {0, 80, 3}, {1, 3, 0}, {2, 2, 0}, {3, 1, 0}, {80, 1, 0}, {MAX, 1, 0}, {MAX, 80, 0}};
        for (int[] w : wanted) {
            Judge x = letters(3);
            due("play " + w[0] + ", " + w[1], x.play(0, w[0], w[1], 0), w[0] == 1 || w[0] == 2 ? 0 : PLACE);
            due("taken", x.count(8), w[2]);
            due("refused by feed", x.count(9), w[0] == 1 || w[0] == 2 ? 1 : 0);
            due("refused by the host", x.count(10), w[0] == 1 || w[0] == 2 ? 0 : 1);
        }
        Judge y = letters(80);
        due("81", y.play(0, 0, 81, 0), NONE);
        due("of 80 the eleven that are not early", y.play(0, 0, 80, 0), 11);
        Judge z = letters(3);
        due("the first", z.play(0, 0, 1, 0), 1);
        due("the second and third, and one more", z.play(0, 1, 3, 0), PLACE);
        due("taken all the same", z.count(8), 3);
        due("the last act", z.act(2, 0), 0);
    }

    private static void playAheadOfTheRow() {
        sentence("PLACE: the row ends ahead of a letter that is wanted (those ahead of it are taken all the same)");
        Judge x = letters(3);
        int[] ahead = {-1, -3, -80, MIN};
        for (int i : ahead) {
            due("from place " + i, x.play(0, i, 1, 0), PLACE);
            due("from place " + i, x.play(0, i, 80, 0), PLACE);
        }
        due("none is taken", x.count(8) + x.count(9), 0);
    }

    private static void playRefuses() {
        sentence("NONE: no such TAPE, player, n is not 0 .. 80; NOTHING; CAST: it is no row of longs");
        Judge x = ofAllSorts();
        for (int d : NO_TAPES) due("tape " + d, x.play(d, 0, 1, 0), NONE);
        int[] nobody = {-1, 2, 4, MIN, MAX};
        for (int p : nobody) due("player " + p, x.play(4, 0, 1, p), NONE);
        int[] sizes = {-1, 81, MIN, MAX};
        for (int n : sizes) due("n " + n, x.play(4, 0, n, 0), NONE);
        due("nothing", x.play(0, 0, 1, 0), NOTHING);
        due("nothing, though none is wanted", x.play(0, 0, 0, 0), NOTHING);
        int[] others = {1, 2, 3, 5};
        for (int d : others) {
            due("no longs", x.play(d, 0, 1, 0), CAST);
            due("no longs, though none is wanted", x.play(d, 0, 0, 0), CAST);
        }
        due("no letter came", x.count(8) + x.count(9), 0);
        due("a letter of noughts is a wait", x.play(4, 0, 1, 1), 1);
        due("the act", x.act(0, 1), 0);
    }

    private static void playWrapsSeqs() {
        sentence("A player's next SEQ is 0 at first, then 1 .. 255, then 0 again");
        Judge x = new Judge();
        for (int t = 0; t < 253; t++) {
            x.feed(0, bits(WAIT, 0, 0, t, t));
            if (t < 252) x.step();
        }
        x.tape(0, 4, 2);
        x.put(0, 0, bits(WAIT, 0, 0, 253, 253));
        x.put(0, 1, bits(WAIT, 0, 0, 254, 254));
        due("253, 254", x.play(0, 0, 2, 0), 2);
        due("then 255 and not 0", x.feed(0, bits(WAIT, 0, 0, 254, 0)), SEQ);
    }

    // ---- promises 34 and 35

    private static void keptHasCells() {
        sentence("What the VIEW on TAPE d tells of a CELL, as told(), of the world as it was then");
        int[][] sizes = {{3, 3}, {10, 10}, {3, 10}, {4, 5}};
        for (int[] s : sizes) {
            Game g = new Game(s[0], s[1], 2);
            int cells = s[0] * s[1];
            g.x.view(0, 1);
            due("the last cell", g.x.kept(0, cells - 1), 8);
            due("the first cell", g.x.kept(0, 0), g.x.told(1, 0));
            int[] none = {-1, cells, MIN, MAX};
            for (int c : none) due("cell " + c, g.x.kept(0, c), PLACE);
        }
    }

    private static void keptOfAnotherWorld() {
        sentence("PLACE: that world had no such CELL");
        Game g = new Game(3, 3, 1);
        g.walls(4);
        g.x.view(0, 0);
        g.x.begin(10, 10, 4);
        g.x.view(1, 0);
        due("a cell of that world", g.x.kept(0, 4), 1);
        due("the last one of that world", g.x.kept(0, 8), -1);
        due("a cell of this world alone", g.x.kept(0, 9), PLACE);
        due("of this one", g.x.kept(1, 9), -1);
        due("the last one of this world", g.x.kept(1, 99), -1);
        g.x.begin(3, 3, 1);
        due("of that one", g.x.kept(1, 99), -1);
        due("behind it", g.x.kept(1, 100), PLACE);
    }

    private static void keptRefuses() {
        sentence("NONE: no such TAPE; NOTHING; CAST; PLACE: that world had no such CELL");
        Judge x = ofAllSorts();
        for (int d : NO_TAPES) due("tape " + d, x.kept(d, 0), NONE);
        due("nothing", x.kept(0, 0), NOTHING);
        for (int d = 1; d <= 4; d++) due("a row", x.kept(d, 0), CAST);
        due("a view", x.kept(5, 0), 8);
        due("what is not seen is no refusal", x.kept(5, 48), -1);
        due("refusals of the host's", x.count(10), 5);
    }

    private static Game withTraps(int traps) {
        Game g = new Game(3, 3, 1);
        for (int i = 0; i < traps; i++) g.places(TRAP, 1);
        g.doNow(0, STEP, RIGHT);
        return g;
    }

    private static void tossOfTheLiving() {
        sentence("The failure of the VIEW on TAPE d is thrown, and caught: on how many CELLS it tells");
        Game g = withTraps(2);
        due("with 1 life", g.x.view(0, 0), 9);
        for (int i = 0; i < 3; i++) due("toss", g.x.toss(0), 9);
        Game h = new Game(3, 3, 1);
        h.walls(1, 3, 4);
        h.x.view(5, 0);
        due("four", h.x.toss(5), 4);
        due("it holds the view still", h.x.clear(5), 5);
    }

    private static void tossOfTheDead() {
        sentence("THROWN: one that tells of none has none");
        Game g = withTraps(3);
        due("it tells of none", g.x.view(0, 0), 0);
        for (int i = 0; i < 2; i++) due("toss", g.x.toss(0), THROWN);
        due("kept", g.x.kept(0, 1), -1);
        due("no such cell", g.x.kept(0, 9), PLACE);
        due("it is a view all the same", g.x.clear(0), 5);
    }

    private static void tossRefuses() {
        sentence("NONE: no such TAPE; NOTHING; CAST; THROWN: one that tells of none has none");
        Judge x = ofAllSorts();
        for (int d : NO_TAPES) due("tape " + d, x.toss(d), NONE);
        due("nothing", x.toss(0), NOTHING);
        for (int d = 1; d <= 4; d++) due("a row", x.toss(d), CAST);
        due("a view", x.toss(5), 25);
    }

    // ---- promise 36

    private static void countOfTheWorld() {
        sentence("0 columns, 1 rows, 2 players, 3 THINGS, 4 DOORS, 5 NOW, 6 LATE, 7 RISK");
        Game g = new Game(4, 9, 3);
        g.x.late(1);
        g.x.risk(17);
        for (int i = 0; i < 8; i++) g.x.door(12 + i, 3);
        for (int i = 3; i < 16; i++) g.places(POT, 5);
        g.steps(5);
        int[] want = {4, 9, 3, 16, 8, 5, 1, 17};
        for (int i = 0; i < 8; i++) due("count(" + i + ")", g.x.count(i), want[i]);
        sentence("all since begin() (0 to 7 as they are)");
        g.x.begin(3, 3, 1);
        int[] anew = {3, 3, 1, 1, 0, 0, 4, 1048, 0, 0, 0};
        for (int i = 0; i < 11; i++) due("count(" + i + ")", g.x.count(i), anew[i]);
    }

    private static void countOfLetters() {
        sentence("8 letters taken, 9 refused by feed (also by play)");
        Game g = new Game(3, 3, 2);
        g.places(TRAP, 3, 3, 3);
        int refused = 0;
        int[] garbled = {1, 2, 3};
        for (int b : garbled) {
            due("garbled", g.x.feed(0, b), GARBLED);
            due("refused", g.x.count(9), ++refused);
        }
        long[] letters = {bits(7, 0, 0, 0, 0), bits(WAIT, 0, 0, 0, 1), bits(WAIT, 0, 0, 3, 0), bits(PUT, 0, 0, 0, 0)};
        int[] answers = {KIND, SEQ, EARLY, CRAFTED};
        for (int i = 0; i < 4; i++) {
            due("refused", g.x.feed(0, letters[i]), answers[i]);
            due("refused", g.x.count(9), ++refused);
        }
        due("none is taken", g.x.count(8), 0);
        due("no such player", g.x.feed(2, 0), NONE);
        due("refused", g.x.count(9), ++refused);
        g.doNow(0, STEP, DOWN);
        due("taken", g.x.count(8), 1);
        due("dead", g.send(0, WAIT, 0, 0, 1), DEAD);
        due("twice", g.send(0, WAIT, 0, 0, 0), TWICE);
        due("late, taken", g.send(1, WAIT, 0, 0, 0), 1);
        g.steps(5);
        due("late", g.send(1, WAIT, 0, 0, 1), LATE);
        due("taken", g.x.count(8), 2);
        due("refused", g.x.count(9), refused + 3);
        due("none of the host's", g.x.count(10), 0);
    }

    private static void countOfTheHostsRefusals() {
        sentence("10 refusals of the host's (-11 to -15) so far, all since begin() (0 to 7 as they are)");
        Judge x = ofAllSorts();
        int[] answers = {x.put(0, 0, 1), x.put(5, 0, 1), x.put(1, 3, 1), x.copy(0, 0, 1, 0, 1), x.copy(1, 0, 2, 0, 1),
            x.copy(1, 0, 1, 0, 4), x.play(0, 0, 1, 0), x.play(1, 0, 1, 0), x.play(4, 3, 1, 0), x.kept(0, 0), x.kept(1, 0),
            x.kept(5, 49), x.toss(0), x.toss(1), x.tape(0, 1, -1)};
        int[] want = {NOTHING, CAST, PLACE, NOTHING, CAST, PLACE, NOTHING, CAST, PLACE, NOTHING, CAST, PLACE, NOTHING, CAST, SIZE};
        for (int i = 0; i < want.length; i++) due("refusal " + i, answers[i], want[i]);
        due("so many", x.count(10), want.length);
        x.put(6, 0, 1);
        x.copy(6, 0, 0, 0, 0);
        x.play(4, 0, 81, 0);
        x.kept(-1, 0);
        x.toss(6);
        x.tape(0, 5, 1);
        x.view(6, 0);
        x.clear(6);
        due("NONE is no refusal of the host's", x.count(10), want.length);
        for (int d = -1; d < 7; d++) thrown(x, d, 90);
        due("what at() throws isn't counted", x.count(10), want.length);
        x.begin(3, 3, 1);
        due("begun anew", x.count(10), 0);
        due("of those since", x.toss(0), NOTHING);
        due("one", x.count(10), 1);
        Game g = withTraps(3);
        g.x.view(0, 0);
        due("thrown", g.x.toss(0), THROWN);
        due("one", g.x.count(10), 1);
    }

    private static void countHasNumbers() {
        sentence("NONE for another what");
        Judge x = new Judge();
        due("the last", x.count(10), 0);
        int[] none = {-1, 11, MIN, MAX};
        for (int what : none) due("count(" + what + ")", x.count(what), NONE);
    }
}
