/** Promises 1 to 23: runs of up to 512 calls, each answer compared with that of the model. */
public final class ModelTest {
    private static final int RUNS = 3000;
    private static final int CALLS = 512;
    private static final int MOST_OF_A_STEP = 12;
    private static final String SIGNS = "123456789011223@@@;;>>!*0 x/:?A~";

    private final Checks checks = new Checks("ModelTest");
    private long seed;
    private int addresses;
    private int ports;
    private int quiet;

    private ModelTest(long seed) {
        this.seed = seed;
    }

    /** Numbers that look arbitrary and are the same in each run of the test. */
    private int some(int below) {
        seed = seed * 6364136223846793005L + 1442695040888963407L;
        return (int) ((seed >>> 33) % below);
    }

    private int rarely(int usual, int... others) {
        return some(40) == 0 ? others[some(others.length)] : usual;
    }

    private int somePort() {
        return rarely(some(ports), -1, 8, 7, Integer.MAX_VALUE, Integer.MIN_VALUE);
    }

    private int someAddress() {
        return rarely(1 + some(addresses), 0, -1, 99, 100, Integer.MAX_VALUE, Integer.MIN_VALUE);
    }

    private int someDestination() {
        return some(5) == 0 ? 0 : someAddress();
    }

    private int someWhat(int most) {
        return rarely(some(most + 1), -1, most + 1, Integer.MAX_VALUE, Integer.MIN_VALUE);
    }

    private int someValue(int what) {
        int[] usual = {20, 12, 6, 10};
        int most = what >= 0 && what <= 3 ? usual[what] : 10;
        return rarely(1 + some(most), 0, -1, 10, 11, 50, 51, 600, 601, 1000, 1001, Integer.MAX_VALUE, Integer.MIN_VALUE);
    }

    private void both(LearningRepeater x, Model m) {
        int kind = some(100);
        if (kind < 34) {
            actOfFrames(x, m, kind);
        } else if (kind < 50) {
            actOfPorts(x, m, kind);
        } else if (kind < 58) {
            texts(x, m);
        } else if (kind < 62) {
            history(x, m);
        } else {
            told(x, m, kind);
        }
    }

    private void actOfFrames(LearningRepeater x, Model m, int kind) {
        if (kind < 26) {
            int port = somePort();
            int source = someAddress();
            int destination = someDestination();
            int priority = rarely(some(4), -1, 4);
            checks.due("frame(" + port + ", " + source + ", " + destination + ", " + priority + ")",
                    x.frame(port, source, destination, priority), m.frame(port, source, destination, priority));
        } else if (kind < 26 + quiet) {
            int seconds = rarely(1 + some(some(3) == 0 ? 10 : 2), 0, -1, 11, Integer.MAX_VALUE);
            checks.due("pass(" + seconds + ")", x.pass(seconds), m.pass(seconds));
        } else {
            int address = someAddress();
            checks.due("forget(" + address + ")", x.forget(address), m.forget(address));
        }
    }

    private void actOfPorts(LearningRepeater x, Model m, int kind) {
        int port = somePort();
        if (kind < 38) {
            int other = somePort();
            checks.due("join(" + port + ", " + other + ")", x.join(port, other), m.join(port, other));
        } else if (kind < 40) {
            checks.due("part(" + port + ")", x.part(port), m.part(port));
        } else if (kind < 43) {
            boolean up = some(3) > 0;
            checks.due("setPort(" + port + ", " + up + ")", x.setPort(port, up), m.setPort(port, up));
        } else if (kind < 46) {
            checks.due("release(" + port + ")", x.release(port), m.release(port));
        } else {
            int what = someWhat(3);
            int value = someValue(what);
            checks.due("set(" + what + ", " + value + ")", x.set(what, value), m.set(what, value));
        }
    }

    private void texts(LearningRepeater x, Model m) {
        if (some(4) == 0) {
            checks.due("clearText()", x.clearText(), m.clearText());
        }
        String behind = m.count(14) > 0 == some(12) > 0 ? ";" : "";
        String more = some(8) > 0 ? behind + someFrame() : "" + SIGNS.charAt(some(SIGNS.length()));
        for (int k = 0; k < more.length(); k++) {
            char sign = more.charAt(k);
            checks.due("type(" + (int) sign + ")", x.type(sign), m.type(sign));
        }
        checks.due("readFrames()", x.readFrames(), m.readFrames());
    }

    private String someFrame() {
        String to = some(3) == 0 ? "*" : "" + (1 + some(addresses));
        String priority = some(2) == 0 ? "" : "!" + some(4);
        return (1 + some(addresses)) + ">" + to + priority + "@" + some(ports);
    }

    private void history(LearningRepeater x, Model m) {
        int kind = some(6);
        if (kind < 3) {
            checks.due("undo()", x.undo(), m.undo());
        } else if (kind < 5) {
            checks.due("restore()", x.restore(), m.restore());
        } else {
            checks.due("keep()", x.keep(), m.keep());
        }
    }

    private void told(LearningRepeater x, Model m, int kind) {
        int port = somePort();
        if (kind < 70) {
            int what = someWhat(7);
            checks.due("port(" + port + ", " + what + ")", x.port(port, what), m.port(port, what));
        } else if (kind < 78) {
            int what = someWhat(10);
            checks.due("account(" + port + ", " + what + ")", x.account(port, what), m.account(port, what));
        } else if (kind < 83) {
            int entry = rarely(some(21), -1, Integer.MAX_VALUE, Integer.MIN_VALUE);
            int what = someWhat(3);
            checks.due("entry(" + entry + ", " + what + ")", x.entry(entry, what), m.entry(entry, what));
        } else if (kind < 86) {
            int address = someAddress();
            checks.due("where(" + address + ")", x.where(address), m.where(address));
        } else if (kind < 91) {
            int place = rarely(some(12), -1, 12, Integer.MAX_VALUE, Integer.MIN_VALUE);
            int what = someWhat(3);
            checks.due("queued(" + port + ", " + place + ", " + what + ")",
                    x.queued(port, place, what), m.queued(port, place, what));
        } else if (kind < 94) {
            int source = someAddress();
            int destination = someDestination();
            checks.due("wouldGo(" + port + ", " + source + ", " + destination + ")",
                    x.wouldGo(port, source, destination), m.wouldGo(port, source, destination));
        } else if (kind < 95) {
            checks.due("loops()", x.loops(), m.loops());
        } else {
            int what = someWhat(14);
            checks.due("count(" + what + ")", x.count(what), m.count(what));
        }
    }

    private void run(int number) {
        checks.promise("run " + number);
        int[] reach = {4, 9, 30, 99};
        addresses = reach[some(reach.length)];
        ports = some(3) == 0 ? 3 : 8;
        quiet = 3 + some(5);
        LearningRepeater x = new LearningRepeater();
        Model m = new Model();
        int before = checks.made();
        while (checks.made() - before < CALLS - MOST_OF_A_STEP) {
            both(x, m);
        }
    }

    public static void main(String[] args) {
        ModelTest test = new ModelTest(20261119);
        for (int number = 0; number < RUNS; number++) {
            test.run(number);
        }
        test.checks.end();
    }
}
