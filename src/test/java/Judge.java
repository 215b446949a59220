/** A RunJudge that counts its calls: the document promises nothing behind the 512th, so no test may go beyond it. */
final class Judge {
    private static final int PROMISED = 512;
    private final RunJudge judge = new RunJudge();
    private int calls;
    /** NOW as the answers tell it, so that a test spends no call on it. */
    int now;

    private RunJudge call() {
        calls++;
        if (calls == PROMISED + 1) Check.fail("a test makes more calls than the document promises to answer");
        return judge;
    }

    int callsLeft() {
        return PROMISED - calls;
    }

    int begin(int w, int h, int players) {
        int cells = call().begin(w, h, players);
        if (cells >= 0) now = 0;
        return cells;
    }

    int step() {
        int answer = call().step();
        if (answer >= 0) now = answer;
        return answer;
    }

    int wall(int cell) { return call().wall(cell); }
    int door(int cell, int word) { return call().door(cell, word); }
    int plate(int cell, int door) { return call().plate(cell, door); }
    int place(int kind, int cell) { return call().place(kind, cell); }
    int late(int ticks) { return call().late(ticks); }
    int risk(int parts) { return call().risk(parts); }
    long pack(int kind, int d, int w, int tick, int seq) { return call().pack(kind, d, w, tick, seq); }
    int feed(int p, long bits) { return call().feed(p, bits); }
    int body(int p, int what) { return call().body(p, what); }
    int thing(int n, int what) { return call().thing(n, what); }
    int open(int door) { return call().open(door); }
    int sees(int p, int cell) { return call().sees(p, cell); }
    int told(int p, int cell) { return call().told(p, cell); }
    int letter(int p, int t) { return call().letter(p, t); }
    int digest(int t) { return call().digest(t); }
    int replay(int t) { return call().replay(t); }
    int fall() { return call().fall(); }
    int act(int t, int p) { return call().act(t, p); }
    int hit(int t, int p) { return call().hit(t, p); }
    int taken(int i, int what) { return call().taken(i, what); }
    int back(int what) { return call().back(what); }
    int watch(int p, int kind, int what) { return call().watch(p, kind, what); }
    int fair(int p, int what) { return call().fair(p, what); }
    int tape(int d, int sort, int n) { return call().tape(d, sort, n); }
    int view(int d, int p) { return call().view(d, p); }
    int clear(int d) { return call().clear(d); }
    int put(int d, int i, long v) { return call().put(d, i, v); }
    long at(int d, int i) { return call().at(d, i); }
    int copy(int d, int i, int e, int j, int n) { return call().copy(d, i, e, j, n); }
    int play(int d, int i, int n, int p) { return call().play(d, i, n, p); }
    int kept(int d, int cell) { return call().kept(d, cell); }
    int toss(int d) { return call().toss(d); }
    int count(int what) { return call().count(what); }
}
