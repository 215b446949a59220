/** Promises 1 to 8: a new object, begin, wall, door, plate, place, late, risk. */
public final class WorldTest {
    public static void main(String[] args) {
        newObject();
        begin();
        beginForgets();
        wall();
        door();
        plate();
        place();
        late();
        risk();
        Check.end("WorldTest");
    }

    private static void newObject() {
        Judge x = new Judge();
        int[] counts = {7, 7, 2, 2, 0, 0, 4, 1048, 0, 0, 0};
        for (int i = 0; i < counts.length; i++) Check.due("count(" + i + ")", x.count(i), counts[i]);
        int[] first = {0, 5, 1, 0, -1, 0, 0};
        int[] second = {48, 5, 1, 0, -1, 0, 0};
        for (int i = 0; i < 7; i++) {
            Check.due("body(0, " + i + ")", x.body(0, i), first[i]);
            Check.due("body(1, " + i + ")", x.body(1, i), second[i]);
        }
        Check.due("body(2, 0)", x.body(2, 0), -1);
        for (int d = 0; d < 6; d++) Check.due("clear", x.clear(d), 0);
        for (int i = 0; i < 4; i++) Check.due("back", x.back(i), 0);
        Check.due("act(0, 0)", x.act(0, 0), 4096);
        Check.due("watch(1, 1, 2)", x.watch(1, 1, 2), 1 << 20);
        Check.due("wall(3): all is floor", x.wall(3), 1);
    }

    private static void begin() {
        Judge x = new Judge();
        Check.due("begin(4, 5, 4)", x.begin(4, 5, 4), 20);
        int[] cells = {0, 19, 3, 16};
        for (int p = 0; p < 4; p++) {
            Check.due("cell of " + p, x.body(p, 0), cells[p]);
            Check.due("life of " + p, x.body(p, 1), 5);
            Check.due("face of " + p, x.body(p, 2), 1);
        }
        int[][] wrong = {{2, 5, 1}, {11, 5, 1}, {5, 2, 1}, {5, 11, 1}, {5, 5, 0}, {5, 5, 5}, {-5, -5, 2},
            {Integer.MAX_VALUE, 3, 1}, {3, Integer.MIN_VALUE, 1}};
        for (int[] w : wrong) Check.due("begin refuses", x.begin(w[0], w[1], w[2]), RunJudge.NONE);
        Check.due("columns stay", x.count(0), 4);
        Check.due("players stay", x.count(2), 4);
        Check.due("begin(3, 3, 1)", x.begin(3, 3, 1), 9);
        Check.due("begin(10, 10, 4)", x.begin(10, 10, 4), 100);
        Check.due("begin(3, 10, 2)", x.begin(3, 10, 2), 30);
        Check.due("rows", x.count(1), 10);
        Check.due("things", x.count(3), 2);
    }

    private static void beginForgets() {
        Judge x = new Judge();
        x.door(3, 5);
        x.plate(0, 0);
        x.place(7, 0);
        x.wall(9);
        x.late(2);
        x.risk(9);
        x.tape(0, 3, 2);
        x.put(0, 0, 77);
        x.put(0, 9, 77);
        x.feed(0, x.pack(4, 0, 0, 0, 0));
        x.feed(0, 1);
        for (int i = 0; i < 5; i++) x.step();
        Check.due("points", x.body(0, 5), 5);
        Check.due("begin", x.begin(7, 7, 2), 49);
        int[] counts = {7, 7, 2, 2, 0, 0, 4, 1048, 0, 0, 0};
        for (int i = 0; i < counts.length; i++) Check.due("count(" + i + ") behind begin", x.count(i), counts[i]);
        Check.due("points behind begin", x.body(0, 5), 0);
        Check.due("known behind begin", x.body(0, 6), 0);
        Check.due("load behind begin", x.body(0, 4), -1);
        Check.due("act behind begin", x.act(0, 0), 4096);
        Check.due("wall behind begin", x.wall(9), 1);
        Check.due("the door is floor", x.wall(3), 1);
        Check.due("the tape stays", x.at(0, 0), 77);
        Check.due("seq is 0 again", x.feed(0, x.pack(1, 1, 0, 0, 0)), 0);
    }

    private static void wall() {
        Judge x = new Judge();
        Check.due("wall(5)", x.wall(5), 1);
        Check.due("wall(5) again", x.wall(5), 0);
        int[] none = {-1, 49, Integer.MAX_VALUE, Integer.MIN_VALUE};
        for (int c : none) Check.due("no cell", x.wall(c), RunJudge.NONE);
        Check.due("a body's cell", x.wall(48), RunJudge.KIND);
        x.place(4, 7);
        Check.due("a trap's cell", x.wall(7), RunJudge.KIND);
        x.door(8, 1);
        Check.due("a door", x.wall(8), RunJudge.KIND);
        x.plate(9, 0);
        Check.due("a plate", x.wall(9), RunJudge.KIND);
        Check.due("an act for tick 2", x.feed(0, x.pack(1, 1, 0, 2, 0)), 0);
        Check.due("started by an act", x.wall(10), RunJudge.STARTED);
        Check.due("started ahead of kind", x.wall(8), RunJudge.STARTED);
        Check.due("none ahead of started", x.wall(49), RunJudge.NONE);
        x.begin(3, 3, 1);
        x.step();
        Check.due("started by a tick", x.wall(4), RunJudge.STARTED);
    }

    private static void door() {
        Judge x = new Judge();
        Check.due("door(1, 0)", x.door(1, 0), 0);
        Check.due("door(2, 15)", x.door(2, 15), 1);
        Check.due("word 16", x.door(3, 16), RunJudge.NONE);
        Check.due("word -1", x.door(3, -1), RunJudge.NONE);
        Check.due("cell -1", x.door(-1, 1), RunJudge.NONE);
        Check.due("cell 49", x.door(49, 1), RunJudge.NONE);
        Check.due("on a door", x.door(1, 1), RunJudge.KIND);
        Check.due("on a body", x.door(0, 1), RunJudge.KIND);
        x.wall(4);
        Check.due("on a wall", x.door(4, 1), RunJudge.KIND);
        x.plate(5, 1);
        Check.due("on a plate", x.door(5, 1), RunJudge.KIND);
        x.place(3, 6);
        Check.due("on a pot", x.door(6, 1), RunJudge.KIND);
        for (int i = 2; i < 8; i++) Check.due("door " + i, x.door(10 + i, i), i);
        Check.due("the ninth", x.door(20, 1), RunJudge.FULL);
        Check.due("kind ahead of full", x.door(1, 1), RunJudge.KIND);
        Check.due("doors", x.count(4), 8);
        Check.due("still floor", x.wall(20), 1);
        Check.due("shut", x.open(7), 0);
        x.step();
        Check.due("started", x.door(30, 1), RunJudge.STARTED);
        Check.due("started ahead of kind and full", x.door(1, 1), RunJudge.STARTED);
        Check.due("none ahead of started", x.door(30, 16), RunJudge.NONE);
    }

    private static void plate() {
        Judge x = new Judge();
        Check.due("no door yet", x.plate(5, 0), RunJudge.NONE);
        x.door(1, 3);
        x.door(2, 4);
        Check.due("plate(5, 1)", x.plate(5, 1), 3);
        Check.due("again", x.plate(5, 1), RunJudge.KIND);
        Check.due("on a door", x.plate(1, 1), RunJudge.KIND);
        x.wall(6);
        Check.due("on a wall", x.plate(6, 1), RunJudge.KIND);
        Check.due("door -1", x.plate(7, -1), RunJudge.NONE);
        Check.due("door 2", x.plate(7, 2), RunJudge.NONE);
        Check.due("cell 49", x.plate(49, 0), RunJudge.NONE);
        Check.due("cell -1", x.plate(-1, 0), RunJudge.NONE);
        Check.due("nothing known", x.body(0, 6), 0);
        Check.due("under a body", x.plate(0, 1), 3);
        Check.due("known at tick 0", x.body(0, 6), 2);
        Check.due("not by the other", x.body(1, 6), 0);
        x.place(3, 8);
        Check.due("under a pot", x.plate(8, 0), 3);
        x.step();
        Check.due("known from then on", x.body(0, 6), 2);
        Check.due("started", x.plate(9, 0), RunJudge.STARTED);
        Check.due("none ahead of started", x.plate(9, 2), RunJudge.NONE);
    }

    private static void place() {
        Judge x = new Judge();
        for (int kind = 1; kind <= 7; kind++) Check.due("place(" + kind + ")", x.place(kind, 10 + kind), 1 + kind);
        int[] lives = {2, 3, 0, 0, 0, 0, 0};
        for (int n = 2; n < 9; n++) {
            Check.due("kind of " + n, x.thing(n, 0), n - 1);
            Check.due("cell of " + n, x.thing(n, 1), 9 + n);
            Check.due("life of " + n, x.thing(n, 2), lives[n - 2]);
            Check.due("carrier of " + n, x.thing(n, 3), -1);
        }
        Check.due("kind 0", x.place(0, 5), RunJudge.NONE);
        Check.due("kind 8", x.place(8, 5), RunJudge.NONE);
        Check.due("cell -1", x.place(3, -1), RunJudge.NONE);
        Check.due("cell 49", x.place(3, 49), RunJudge.NONE);
        x.wall(20);
        x.door(21, 0);
        x.plate(22, 0);
        Check.due("in a wall", x.place(3, 20), RunJudge.KIND);
        Check.due("in a door", x.place(5, 21), RunJudge.KIND);
        Check.due("a beast on a body", x.place(1, 0), RunJudge.KIND);
        Check.due("a wolf on a beast", x.place(2, 11), RunJudge.KIND);
        Check.due("a wolf on a pot", x.place(2, 13), 9);
        Check.due("a stone on a body", x.place(5, 0), 10);
        Check.due("a beast on a plate", x.place(1, 22), 11);
        for (int n = 12; n < 16; n++) Check.due("thing " + n, x.place(6, 40), n);
        Check.due("the seventeenth", x.place(6, 40), RunJudge.FULL);
        Check.due("kind ahead of full", x.place(6, 20), RunJudge.KIND);
        Check.due("things", x.count(3), 16);
        x.step();
        Check.due("started", x.place(3, 5), RunJudge.STARTED);
        Check.due("none ahead of started", x.place(9, 5), RunJudge.NONE);
    }

    private static void late() {
        Judge x = new Judge();
        Check.due("late(0)", x.late(0), 4);
        Check.due("late(8)", x.late(8), 0);
        Check.due("late(9)", x.late(9), RunJudge.NONE);
        Check.due("late(-1)", x.late(-1), RunJudge.NONE);
        Check.due("count(6)", x.count(6), 8);
        x.feed(0, x.pack(0, 0, 0, 0, 0));
        Check.due("started by a WAIT", x.late(3), RunJudge.STARTED);
        Check.due("none ahead of started", x.late(9), RunJudge.NONE);
        Check.due("as it was", x.count(6), 8);
    }

    private static void risk() {
        Judge x = new Judge();
        Check.due("risk(0)", x.risk(0), 1048);
        Check.due("risk(2^20)", x.risk(1 << 20), 0);
        Check.due("risk(2^20 + 1)", x.risk((1 << 20) + 1), RunJudge.NONE);
        Check.due("risk(-1)", x.risk(-1), RunJudge.NONE);
        x.step();
        Check.due("risk behind a tick", x.risk(5), 1 << 20);
        Check.due("count(7)", x.count(7), 5);
    }
}
