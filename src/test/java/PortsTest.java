/** Promises 1 to 6: a new object, setPort, join, part, release and set. */
public final class PortsTest {
    private static final int UNKNOWN = LearningRepeater.UNKNOWN;
    private static final int BAD_VALUE = LearningRepeater.BAD_VALUE;
    private static final int NOT_POSSIBLE = LearningRepeater.NOT_POSSIBLE;
    private static final int NONE = LearningRepeater.NONE;

    private static final Checks checks = new Checks("PortsTest");

    public static void main(String[] args) {
        newObject();
        setPort();
        setPortDropsTheQueueAlone();
        join();
        part();
        release();
        set();
        setLeavesWhatHasBegun();
        wrongInputs();
        checks.end();
    }

    private static void newObject() {
        checks.promise("promise 1");
        LearningRepeater x = new LearningRepeater();
        int[] counts = {60, 30, 10, 4, 0, 0, 8, 0, 0, 0, 0, 0, 0, 0, 0};
        for (int what = 0; what < counts.length; what++) {
            checks.due("count(" + what + ")", x.count(what), counts[what]);
        }
        int[] told = {1, 1, 0, 0, NONE, 0, 0, 0};
        for (int port = 0; port < 8; port++) {
            for (int what = 0; what < told.length; what++) {
                checks.due("port(" + port + ", " + what + ")", x.port(port, what), told[what]);
            }
            for (int what = 0; what <= 10; what++) {
                checks.due("account(" + port + ", " + what + ")", x.account(port, what), 0);
            }
            checks.due("queued(" + port + ", 0, 0)", x.queued(port, 0, 0), NONE);
        }
        for (int address = 1; address <= 99; address++) {
            checks.due("where(" + address + ")", x.where(address), NONE);
        }
        checks.due("entry(0, 0)", x.entry(0, 0), NONE);
        checks.due("loops()", x.loops(), 0);
        checks.due("undo()", x.undo(), NONE);
        checks.due("restore()", x.restore(), NONE);
        checks.due("clearText()", x.clearText(), 0);
        LearningRepeater other = new LearningRepeater();
        x.frame(0, 1, 2, 0);
        checks.due("where(1) of another object", other.where(1), NONE);
        checks.due("count(12) of another object", other.count(12), 0);
    }

    private static void setPort() {
        checks.promise("promise 2");
        LearningRepeater x = new LearningRepeater();
        checks.due("setPort(0, true)", x.setPort(0, true), NONE);
        checks.due("setPort(0, false)", x.setPort(0, false), 7);
        checks.due("setPort(7, false)", x.setPort(7, false), 6);
        checks.due("setPort(7, false)", x.setPort(7, false), NONE);
        checks.due("port(7, 0)", x.port(7, 0), 0);
        checks.due("port(7, 1)", x.port(7, 1), 0);
        checks.due("port(6, 0)", x.port(6, 0), 1);
        checks.due("setPort(0, true)", x.setPort(0, true), 7);
        checks.due("port(0, 0)", x.port(0, 0), 1);
        checks.due("count(13)", x.count(13), 3);
        checks.due("undo()", x.undo(), 2);
        checks.due("port(0, 0)", x.port(0, 0), 0);
    }

    private static void setPortDropsTheQueueAlone() {
        checks.promise("promise 2");
        LearningRepeater x = new LearningRepeater();
        x.frame(1, 5, 0, 0);
        x.frame(2, 6, 0, 3);
        x.frame(0, 7, 5, 0);
        checks.due("port(1, 5)", x.port(1, 5), 2);
        checks.due("setPort(1, false)", x.setPort(1, false), 7);
        checks.due("port(1, 5)", x.port(1, 5), 0);
        checks.due("queued(1, 0, 0)", x.queued(1, 0, 0), NONE);
        checks.due("account(1, 8)", x.account(1, 8), 2);
        checks.due("account(1, 7)", x.account(1, 7), 2);
        checks.due("port(2, 5)", x.port(2, 5), 1);
        checks.due("where(5)", x.where(5), 1);
        checks.due("setPort(1, true)", x.setPort(1, true), 8);
        checks.due("port(1, 5)", x.port(1, 5), 0);
        checks.due("account(1, 8)", x.account(1, 8), 2);

        x = quarantined(3);
        checks.due("setPort(3, false)", x.setPort(3, false), 7);
        checks.due("port(3, 2)", x.port(3, 2), 30);
        checks.due("setPort(3, true)", x.setPort(3, true), 7);
        checks.due("port(3, 1)", x.port(3, 1), 0);
        checks.due("port(3, 2)", x.port(3, 2), 30);
        x.setPort(3, false);
        x.pass(10);
        checks.due("port(3, 2)", x.port(3, 2), 20);
    }

    private static void join() {
        checks.promise("promise 3");
        LearningRepeater x = new LearningRepeater();
        checks.due("join(0, 7)", x.join(0, 7), 1);
        checks.due("port(0, 4)", x.port(0, 4), 7);
        checks.due("port(7, 4)", x.port(7, 4), 0);
        checks.due("port(1, 4)", x.port(1, 4), NONE);
        checks.due("join(0, 7)", x.join(0, 7), NOT_POSSIBLE);
        checks.due("join(7, 0)", x.join(7, 0), NOT_POSSIBLE);
        checks.due("join(0, 1)", x.join(0, 1), NOT_POSSIBLE);
        checks.due("join(1, 0)", x.join(1, 0), NOT_POSSIBLE);
        checks.due("join(0, 0)", x.join(0, 0), BAD_VALUE);
        checks.due("join(1, 1)", x.join(1, 1), BAD_VALUE);
        checks.due("count(8)", x.count(8), 1);
        checks.due("join(2, 1)", x.join(2, 1), 2);
        x.setPort(3, false);
        checks.due("join(3, 4)", x.join(3, 4), 3);
        checks.due("join(5, 6)", x.join(5, 6), 4);
        checks.due("count(8)", x.count(8), 4);
        checks.due("count(13)", x.count(13), 4);
        checks.due("undo()", x.undo(), 3);
        checks.due("port(5, 4)", x.port(5, 4), NONE);
        checks.due("port(6, 4)", x.port(6, 4), NONE);
        checks.due("port(4, 4)", x.port(4, 4), 3);
    }

    private static void part() {
        checks.promise("promise 4");
        LearningRepeater x = new LearningRepeater();
        checks.due("part(0)", x.part(0), NONE);
        x.join(0, 7);
        x.join(3, 2);
        checks.due("part(7)", x.part(7), 0);
        checks.due("port(0, 4)", x.port(0, 4), NONE);
        checks.due("port(7, 4)", x.port(7, 4), NONE);
        checks.due("part(0)", x.part(0), NONE);
        checks.due("part(3)", x.part(3), 2);
        checks.due("count(8)", x.count(8), 0);
        checks.due("join(7, 2)", x.join(7, 2), 1);
        checks.due("undo()", x.undo(), 3);
        checks.due("undo()", x.undo(), 2);
        checks.due("part(2)", x.part(2), 3);
    }

    private static void release() {
        checks.promise("promise 5");
        LearningRepeater x = quarantined(3);
        checks.due("release(2)", x.release(2), NONE);
        x.pass(7);
        int states = x.count(13);
        checks.due("count(13)", states, 4);
        checks.due("release(3)", x.release(3), 23);
        checks.due("port(3, 1)", x.port(3, 1), 1);
        checks.due("port(3, 2)", x.port(3, 2), 0);
        checks.due("port(3, 3)", x.port(3, 3), 2);
        checks.due("count(7)", x.count(7), 0);
        checks.due("count(11)", x.count(11), 1);
        checks.due("release(3)", x.release(3), NONE);
        checks.due("undo()", x.undo(), 3);
        checks.due("port(3, 2)", x.port(3, 2), 23);
        x.setPort(3, false);
        checks.due("release(3) of a port that is down", x.release(3), 23);
        checks.due("port(3, 1)", x.port(3, 1), 0);
        x = quarantined(3);
        x.pass(10);
        x.pass(10);
        x.pass(9);
        checks.due("release(3)", x.release(3), 1);
        x.undo();
        x.pass(1);
        checks.due("release(3)", x.release(3), NONE);
    }

    private static void set() {
        checks.promise("promise 6");
        int[] first = {60, 30, 10, 4};
        int[] most = {1000, 600, 50, 10};
        for (int what = 0; what < 4; what++) {
            LearningRepeater x = new LearningRepeater();
            String call = "set(" + what + ", ";
            checks.due(call + "as it is)", x.set(what, first[what]), NONE);
            checks.due(call + "0)", x.set(what, 0), BAD_VALUE);
            checks.due(call + "-1)", x.set(what, -1), BAD_VALUE);
            checks.due(call + "most + 1)", x.set(what, most[what] + 1), BAD_VALUE);
            checks.due("count(13)", x.count(13), 0);
            checks.due(call + "1)", x.set(what, 1), first[what]);
            checks.due("count(" + what + ")", x.count(what), 1);
            checks.due(call + "most)", x.set(what, most[what]), 1);
            checks.due("count(" + what + ")", x.count(what), most[what]);
            checks.due(call + "most)", x.set(what, most[what]), NONE);
            checks.due("count(13)", x.count(13), 2);
            checks.due("undo()", x.undo(), 1);
            checks.due("count(" + what + ")", x.count(what), 1);
            for (int other = 0; other < 4; other++) {
                checks.due("count(" + other + ")", x.count(other), other == what ? 1 : first[other]);
            }
        }
    }

    private static void setLeavesWhatHasBegun() {
        checks.promise("promise 6");
        LearningRepeater x = quarantined(3);
        x.set(1, 5);
        checks.due("port(3, 2)", x.port(3, 2), 30);
        x.frame(0, 9, 0, 0);
        x.pass(4);
        checks.due("set(0, 3)", x.set(0, 3), 60);
        checks.due("where(9) before the next second", x.where(9), 0);
        x.pass(1);
        checks.due("where(9) after it", x.where(9), NONE);
        checks.due("port(3, 2)", x.port(3, 2), 25);
    }

    private static void wrongInputs() {
        checks.promise("promises 2 to 6, wrong inputs");
        int[] noPorts = {-1, 8, Integer.MIN_VALUE, Integer.MAX_VALUE};
        for (int no : noPorts) {
            checks.refused("setPort(" + no + ", false)", PortsTest::busy, x -> x.setPort(no, false), UNKNOWN);
            checks.refused("setPort(" + no + ", true)", PortsTest::busy, x -> x.setPort(no, true), UNKNOWN);
            checks.refused("join(" + no + ", 6)", PortsTest::busy, x -> x.join(no, 6), UNKNOWN);
            checks.refused("join(6, " + no + ")", PortsTest::busy, x -> x.join(6, no), UNKNOWN);
            checks.refused("join(0, " + no + ")", PortsTest::busy, x -> x.join(0, no), UNKNOWN);
            checks.refused("join(no, no), no " + no, PortsTest::busy, x -> x.join(no, no), UNKNOWN);
            checks.refused("part(" + no + ")", PortsTest::busy, x -> x.part(no), UNKNOWN);
            checks.refused("release(" + no + ")", PortsTest::busy, x -> x.release(no), UNKNOWN);
        }
        checks.refused("setPort(5, false)", PortsTest::busy, x -> x.setPort(5, false), NONE);
        checks.refused("join(0, 0)", PortsTest::busy, x -> x.join(0, 0), BAD_VALUE);
        checks.refused("join(0, 6)", PortsTest::busy, x -> x.join(0, 6), NOT_POSSIBLE);
        checks.refused("part(6)", PortsTest::busy, x -> x.part(6), NONE);
        checks.refused("release(6)", PortsTest::busy, x -> x.release(6), NONE);
        checks.refused("set(-1, 5)", PortsTest::busy, x -> x.set(-1, 5), BAD_VALUE);
        checks.refused("set(4, 5)", PortsTest::busy, x -> x.set(4, 5), BAD_VALUE);
        checks.refused("set(MIN, 5)", PortsTest::busy, x -> x.set(Integer.MIN_VALUE, 5), BAD_VALUE);
        checks.refused("set(MAX, 5)", PortsTest::busy, x -> x.set(Integer.MAX_VALUE, 5), BAD_VALUE);
        checks.refused("set(0, MAX)", PortsTest::busy, x -> x.set(0, Integer.MAX_VALUE), BAD_VALUE);
        checks.refused("set(0, MIN)", PortsTest::busy, x -> x.set(0, Integer.MIN_VALUE), BAD_VALUE);
        checks.refused("set(2, 1)", PortsTest::busy, x -> x.set(2, 1), NONE);
    }

    /** With a cable, a port that is down, a quarantine, entries and frames that wait. */
    private static void busy(LearningRepeater x) {
        x.set(2, 1);
        x.join(0, 1);
        x.frame(3, 1, 0, 0);
        x.frame(3, 2, 0, 0);
        x.frame(4, 3, 0, 2);
        x.setPort(5, false);
    }

    /** The port is in quarantine for a storm, for 30 seconds; three acts are recorded. */
    private static LearningRepeater quarantined(int port) {
        LearningRepeater x = new LearningRepeater();
        x.set(2, 1);
        x.frame(port, 1, 0, 0);
        checks.due("frame that begins a storm", x.frame(port, 1, 0, 0), 5);
        checks.due("port(" + port + ", 2)", x.port(port, 2), 30);
        return x;
    }
}
