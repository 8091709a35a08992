/** Promises 16 to 23: port, account, entry, where, queued, wouldGo, loops and count. */
public final class ToldTest {
    private static final int UNKNOWN = LearningRepeater.UNKNOWN;
    private static final int BAD_VALUE = LearningRepeater.BAD_VALUE;
    private static final int NONE = LearningRepeater.NONE;
    private static final int[] NO_PORTS = {-1, 8, Integer.MIN_VALUE, Integer.MAX_VALUE};

    private static final Checks checks = new Checks("ToldTest");

    public static void main(String[] args) {
        port();
        account();
        entry();
        where();
        queued();
        wouldGo();
        wouldGoByAllSteps();
        wouldGoChangesNothing();
        loops();
        count();
        wrongInputs();
        checks.end();
    }

    /** A port of each kind: 0 with a cable, 3 in quarantine, 6 down. */
    private static void busy(LearningRepeater x) {
        x.set(2, 2);
        x.join(0, 1);
        x.frame(4, 44, 0, 2);
        x.frame(4, 40, 0, 0);
        x.frame(5, 50, 0, 1);
        x.frame(3, 30, 0, 3);
        x.frame(3, 31, 0, 3);
        x.frame(3, 32, 0, 3);
        x.setPort(6, false);
        x.frame(6, 60, 0, 0);
    }

    private static void port() {
        checks.promise("promise 16");
        LearningRepeater x = new LearningRepeater();
        busy(x);
        int[][] due = {
            {1, 1, 0, 0, 1, 5, 0, 0},
            {1, 1, 0, 0, 0, 5, 0, 0},
            {1, 1, 0, 0, NONE, 5, 0, 0},
            {1, 0, 30, 2, NONE, 3, 0, 2},
            {1, 1, 0, 0, NONE, 3, 2, 2},
            {1, 1, 0, 0, NONE, 4, 1, 1},
            {0, 0, 0, 0, NONE, 0, 0, 0},
            {1, 1, 0, 0, NONE, 5, 0, 0},
        };
        for (int port = 0; port < 8; port++) {
            for (int what = 0; what < 8; what++) {
                checks.due("port(" + port + ", " + what + ")", x.port(port, what), due[port][what]);
            }
        }
        x.pass(1);
        checks.due("port(4, 7) in the next second", x.port(4, 7), 0);
        checks.due("port(3, 2)", x.port(3, 2), 29);
    }

    private static void account() {
        checks.promise("promise 17");
        LearningRepeater x = new LearningRepeater();
        busy(x);
        int[][] due = {
            {0, 0, 0, 0, 0, 0, 0, 5, 0, 0, 0},
            {0, 0, 0, 0, 0, 0, 0, 5, 0, 0, 0},
            {0, 0, 0, 0, 0, 0, 0, 5, 0, 0, 0},
            {3, 0, 0, 0, 2, 1, 0, 3, 0, 0, 0},
            {2, 0, 0, 0, 2, 0, 0, 3, 0, 0, 0},
            {1, 0, 0, 0, 1, 0, 0, 4, 0, 0, 0},
            {1, 1, 0, 0, 0, 0, 0, 5, 5, 0, 0},
            {0, 0, 0, 0, 0, 0, 0, 5, 0, 0, 0},
        };
        for (int port = 0; port < 8; port++) {
            for (int what = 0; what < 11; what++) {
                checks.due("account(" + port + ", " + what + ")", x.account(port, what), due[port][what]);
            }
        }
        x.frame(5, 50, 50, 0);
        x.frame(5, 50, 44, 0);
        x.setPort(4, false);
        x.frame(5, 50, 44, 0);
        int[] then = {4, 0, 1, 1, 1, 0, 1, 4, 0, 0, 0};
        for (int what = 0; what < 11; what++) {
            checks.due("account(5, " + what + ")", x.account(5, what), then[what]);
        }
        checks.due("account(4, 7)", x.account(4, 7), 4);
        checks.due("account(4, 8)", x.account(4, 8), 4);
        x.pass(1);
        checks.due("account(2, 9)", x.account(2, 9), 4);
        checks.due("account(2, 10)", x.account(2, 10), 4);
        checks.due("account(0, 9)", x.account(0, 9), 4);
        checks.due("account(0, 10)", x.account(0, 10), 0);
        checks.due("account(1, 0)", x.account(1, 0), 4);
    }

    private static void entry() {
        checks.promise("promise 18");
        LearningRepeater x = new LearningRepeater();
        x.frame(7, 99, 0, 0);
        x.frame(0, 50, 0, 0);
        x.pass(4);
        x.frame(2, 1, 0, 0);
        x.frame(3, 50, 0, 0);
        x.pass(2);
        int[][] due = {{1, 2, 2, 0}, {50, 3, 2, 1}, {99, 7, 6, 0}};
        for (int entry = 0; entry < 3; entry++) {
            for (int what = 0; what < 4; what++) {
                checks.due("entry(" + entry + ", " + what + ")", x.entry(entry, what), due[entry][what]);
            }
        }
        checks.due("entry(3, 0)", x.entry(3, 0), NONE);
        checks.due("entry(3, 3)", x.entry(3, 3), NONE);
        checks.due("entry(MAX, 0)", x.entry(Integer.MAX_VALUE, 0), NONE);
        checks.due("entry(3, 4)", x.entry(3, 4), BAD_VALUE);
        checks.due("entry(0, 4)", x.entry(0, 4), BAD_VALUE);
        checks.due("entry(0, -1)", x.entry(0, -1), BAD_VALUE);
        checks.due("entry(-1, 0)", x.entry(-1, 0), BAD_VALUE);
    }

    private static void where() {
        checks.promise("promise 19");
        LearningRepeater x = new LearningRepeater();
        x.frame(7, 99, 0, 0);
        x.frame(0, 1, 0, 0);
        checks.due("where(99)", x.where(99), 7);
        checks.due("where(1)", x.where(1), 0);
        checks.due("where(2)", x.where(2), NONE);
        checks.due("where(0)", x.where(0), BAD_VALUE);
        checks.due("where(-1)", x.where(-1), BAD_VALUE);
        checks.due("where(100)", x.where(100), BAD_VALUE);
        x.setPort(7, false);
        checks.due("where(99), as entries stay", x.where(99), 7);
    }

    private static void queued() {
        checks.promise("promise 20");
        LearningRepeater x = new LearningRepeater();
        x.frame(0, 9, 9, 0);
        x.frame(1, 11, 9, 1);
        x.frame(2, 12, 9, 3);
        x.frame(3, 13, 9, 1);
        x.frame(4, 14, 0, 2);
        int[][] due = {{12, 9, 3, 1}, {14, 0, 2, 3}, {11, 9, 1, 0}, {13, 9, 1, 2}};
        for (int place = 0; place < 4; place++) {
            for (int what = 0; what < 4; what++) {
                checks.due("queued(0, " + place + ", " + what + ")", x.queued(0, place, what), due[place][what]);
            }
        }
        checks.due("queued(0, 4, 0)", x.queued(0, 4, 0), NONE);
        checks.due("queued(0, 12, 0)", x.queued(0, 12, 0), NONE);
        checks.due("queued(0, MAX, 3)", x.queued(0, Integer.MAX_VALUE, 3), NONE);
        checks.due("queued(4, 0, 0)", x.queued(4, 0, 0), NONE);
        checks.due("queued(7, 0, 3)", x.queued(7, 0, 3), 9);
        checks.due("queued(0, 4, 4)", x.queued(0, 4, 4), BAD_VALUE);
        checks.due("queued(0, -1, 0)", x.queued(0, -1, 0), BAD_VALUE);
        checks.due("queued(0, 0, -1)", x.queued(0, 0, -1), BAD_VALUE);
        checks.due("queued(0, 0, 4)", x.queued(0, 0, 4), BAD_VALUE);
        checks.due("queued(8, -1, 4)", x.queued(8, -1, 4), UNKNOWN);
    }

    private static void wouldGo() {
        checks.promise("promise 21");
        LearningRepeater x = new LearningRepeater();
        checks.due("wouldGo(0, 1, 0)", x.wouldGo(0, 1, 0), 254);
        checks.due("wouldGo(7, 99, 99)", x.wouldGo(7, 99, 99), 0);
        checks.due("wouldGo(7, 99, 98)", x.wouldGo(7, 99, 98), 127);
        x.frame(3, 30, 0, 0);
        checks.due("wouldGo(0, 1, 30)", x.wouldGo(0, 1, 30), 8);
        checks.due("wouldGo(3, 1, 30)", x.wouldGo(3, 1, 30), 0);
        x.setPort(5, false);
        checks.due("wouldGo(0, 1, 0)", x.wouldGo(0, 1, 0), 222);
        checks.due("wouldGo(5, 1, 0)", x.wouldGo(5, 1, 0), 0);
        x.setPort(3, false);
        checks.due("wouldGo(0, 1, 30)", x.wouldGo(0, 1, 30), 0);
        x.setPort(3, true);
        for (int k = 0; k < 12; k++) {
            x.frame(1, 10, 30, 0);
        }
        checks.due("wouldGo(0, 1, 30) with a full queue", x.wouldGo(0, 1, 30), 8);
        checks.due("wouldGo(0, 1, 0) with a full queue", x.wouldGo(0, 1, 0), 222);
    }

    private static void wouldGoByAllSteps() {
        checks.promise("promise 21");
        LearningRepeater x = new LearningRepeater();
        x.frame(0, 1, 0, 0);
        x.frame(7, 2, 0, 0);
        x.frame(1, 1, 2, 0);
        x.frame(0, 1, 2, 0);
        checks.due("wouldGo(2, 1, 2), that would be cut for moves", x.wouldGo(2, 1, 2), 0);
        checks.due("wouldGo(0, 1, 2)", x.wouldGo(0, 1, 2), 128);
        checks.due("wouldGo(7, 1, 1)", x.wouldGo(7, 1, 1), 0);
        x.pass(10);
        checks.due("wouldGo(2, 1, 2)", x.wouldGo(2, 1, 2), 128);
        x.set(2, 1);
        x.frame(3, 3, 0, 0);
        checks.due("wouldGo(3, 3, 0), that would be cut for a storm", x.wouldGo(3, 3, 0), 0);
        checks.due("wouldGo(3, 3, 2)", x.wouldGo(3, 3, 2), 128);
        checks.due("wouldGo(4, 3, 0)", x.wouldGo(4, 3, 0), 239);

        x = new LearningRepeater();
        x.set(2, 50);
        for (int address = 1; address <= 20; address++) {
            x.frame(0, address, 0, 0);
        }
        checks.due("wouldGo(1, 20, 1)", x.wouldGo(1, 20, 1), 1);
        checks.due("wouldGo(1, 21, 1), for which the entry is removed", x.wouldGo(1, 21, 1), 253);
        checks.due("wouldGo(1, 21, 2)", x.wouldGo(1, 21, 2), 1);
        checks.due("where(1)", x.where(1), 0);
    }

    private static void wouldGoChangesNothing() {
        checks.promise("promise 21");
        checks.refused("wouldGo(4, 50, 0)", ToldTest::busy, x -> x.wouldGo(4, 50, 0), 0);
        checks.refused("wouldGo(5, 99, 44)", ToldTest::busy, x -> x.wouldGo(5, 99, 44), 16);
        checks.refused("wouldGo(2, 44, 0)", ToldTest::busy, x -> x.wouldGo(2, 44, 0), 1 + 2 + 16 + 32 + 128);
    }

    private static void loops() {
        checks.promise("promise 22");
        LearningRepeater x = new LearningRepeater();
        checks.due("loops()", x.loops(), 0);
        x.join(0, 7);
        x.join(2, 5);
        checks.due("loops()", x.loops(), 1 + 128 + 4 + 32);
        x.setPort(7, false);
        checks.due("loops() with an end that is down", x.loops(), 4 + 32);
        x.setPort(7, true);
        x.set(2, 1);
        x.frame(2, 1, 0, 0);
        x.frame(2, 1, 0, 0);
        checks.due("loops() with an end in quarantine", x.loops(), 1 + 128);
        x.part(0);
        checks.due("loops()", x.loops(), 0);
        x.release(2);
        checks.due("loops()", x.loops(), 4 + 32);
    }

    private static void count() {
        checks.promise("promise 23");
        LearningRepeater x = new LearningRepeater();
        busy(x);
        x.set(0, 61);
        x.set(1, 31);
        x.set(3, 5);
        Checks.type(x, "12345");
        int[] due = {61, 31, 2, 5, 0, 3, 6, 1, 1, 30, 7, 1, 35, 4, 5};
        for (int what = 0; what <= 14; what++) {
            checks.due("count(" + what + ")", x.count(what), due[what]);
        }
        x.part(0);
        checks.due("count(8)", x.count(8), 0);
        x.pass(3);
        checks.due("count(4)", x.count(4), 3);
        x.setPort(3, false);
        checks.due("count(7), of a port that is down, too", x.count(7), 1);
        x.release(3);
        checks.due("count(7)", x.count(7), 0);
        checks.due("count(11)", x.count(11), 1);
    }

    private static void wrongInputs() {
        checks.promise("promises 16 to 23, wrong inputs");
        LearningRepeater x = new LearningRepeater();
        busy(x);
        for (int no : NO_PORTS) {
            checks.due("port(" + no + ", 0)", x.port(no, 0), UNKNOWN);
            checks.due("port(" + no + ", 8)", x.port(no, 8), UNKNOWN);
            checks.due("account(" + no + ", 0)", x.account(no, 0), UNKNOWN);
            checks.due("account(" + no + ", 11)", x.account(no, 11), UNKNOWN);
            checks.due("queued(" + no + ", 0, 0)", x.queued(no, 0, 0), UNKNOWN);
            checks.due("wouldGo(" + no + ", 1, 0)", x.wouldGo(no, 1, 0), UNKNOWN);
            checks.due("wouldGo(" + no + ", 0, 100)", x.wouldGo(no, 0, 100), UNKNOWN);
        }
        for (int no : new int[] {-1, 15, Integer.MIN_VALUE, Integer.MAX_VALUE}) {
            checks.due("port(0, " + no + ")", x.port(0, no), BAD_VALUE);
            checks.due("account(0, " + no + ")", x.account(0, no), BAD_VALUE);
            checks.due("entry(0, " + no + ")", x.entry(0, no), BAD_VALUE);
            checks.due("entry(9, " + no + ")", x.entry(9, no), BAD_VALUE);
            checks.due("queued(0, 0, " + no + ")", x.queued(0, 0, no), BAD_VALUE);
            checks.due("queued(0, 99, " + no + ")", x.queued(0, 99, no), BAD_VALUE);
            checks.due("count(" + no + ")", x.count(no), BAD_VALUE);
        }
        checks.due("port(0, 8)", x.port(0, 8), BAD_VALUE);
        checks.due("account(0, 11)", x.account(0, 11), BAD_VALUE);
        checks.due("entry(MIN, 0)", x.entry(Integer.MIN_VALUE, 0), BAD_VALUE);
        checks.due("queued(0, MIN, 0)", x.queued(0, Integer.MIN_VALUE, 0), BAD_VALUE);
        for (int no : new int[] {-1, 100, Integer.MIN_VALUE, Integer.MAX_VALUE}) {
            checks.due("where(" + no + ")", x.where(no), BAD_VALUE);
            checks.due("wouldGo(0, " + no + ", 0)", x.wouldGo(0, no, 0), BAD_VALUE);
            checks.due("wouldGo(0, 1, " + no + ")", x.wouldGo(0, 1, no), BAD_VALUE);
        }
        checks.due("wouldGo(0, 0, 0)", x.wouldGo(0, 0, 0), BAD_VALUE);
        checks.due("wouldGo(6, 0, 0), at a port that is down", x.wouldGo(6, 0, 0), BAD_VALUE);
    }
}
