import java.util.ArrayDeque;
import java.util.Deque;

/** The sentences of HISTORY, ERRORS and promises 13 to 15. */
final class EdgesOfHistory {
    private static final String HISTORY = "HISTORY";
    private static final String ERRORS = "ERRORS";
    /** Three states in the history: 2 and 3 are joined, 5 is in quarantine, 50 is at 4. */
    private static final String THREE = "set(2, 1)=10 join(2, 3)=1 readFrames()=3 keep()=0 count(13)=3 ";
    private static final String THREE_TEXT = "7>*@5;8>*@5;50>50@4";
    private static final String DIFFERENT = " set(0, 1) set(1, 1) set(2, 1) set(3, 1) part(0)=1 join(0, 2) release(4)"
            + " setPort(7, true) setPort(3, false) frame(2, 5, 0, 0) frame(5, 5, 0, 0) frame(6, 5, 0, 0)"
            + " frame(5, 77, 0, 3) frame(2, 9, 9, 0) pass(10) frame(7, 9, 0, 0) frame(0, 99, 5, 1) readFrames()"
            + " pass(3)";

    private final Edges e;

    EdgesOfHistory(Edges edges) {
        e = edges;
    }

    void all() {
        fourStates();
        undoAmongActs();
        recorded();
        notRecorded();
        snapshot();
        states();
        constants();
        orderOfChecks();
        changesNothing();
        undo();
        keep();
        restore();
    }

    private void fourStates() {
        e.sentence(HISTORY, "A history of at most 4 states is kept");
        e.run("count(13)=0 set(0, 1)=60 count(13)=1 set(0, 2)=1 count(13)=2 set(0, 3)=2 count(13)=3 set(0, 4)=3"
                + " count(13)=4 set(0, 5)=4 count(13)=4 set(0, 6)=5 count(13)=4");
        e.sentence(HISTORY, "when one more is recorded, the oldest one is dropped");
        for (int acts = 0; acts <= 10; acts++) {
            Run run = e.run("");
            for (int act = 1; act <= acts; act++) {
                run.calls("set(0, %d)=%d", act, act == 1 ? 60 : act - 1);
            }
            int states = Math.min(acts, 4);
            for (int left = states - 1; left >= 0; left--) {
                int then = acts - states + left;
                run.calls("undo()=%d count(0)=%d count(13)=%d", left, then == 0 ? 60 : then, left);
            }
            run.calls("undo()=NONE count(13)=0 count(0)=%d", acts <= 4 ? 60 : acts - 4);
        }
    }

    private void undoAmongActs() {
        e.sentence(HISTORY, "undo() removes and restores the latest one");
        e.run("set(0, 1)=60 set(0, 2)=1 undo()=1 count(0)=1 set(0, 3)=1 count(13)=2 undo()=1 count(0)=1 undo()=0"
                + " count(0)=60 undo()=NONE set(0, 5)=60 undo()=0 count(0)=60");
        for (int acts = 0; acts <= 6; acts++) {
            for (int undos = 0; undos <= 5; undos++) {
                for (int more = 0; more <= 6; more++) {
                    undoAmongActs(new int[] {acts, undos, more, 5, acts, undos, more, 5});
                }
            }
        }
    }

    /** So many acts, so many undos, and so on. */
    private void undoAmongActs(int[] numbers) {
        Run run = e.run("");
        Deque<Integer> history = new ArrayDeque<>();
        int next = 100;
        int present = 60;
        for (int k = 0; k < numbers.length; k++) {
            for (int call = 0; call < numbers[k]; call++) {
                if (k % 2 == 0) {
                    run.calls("set(0, %d)=%d", next, present);
                    history.addLast(present);
                    if (history.size() > 4) {
                        history.removeFirst();
                    }
                    present = next++;
                } else if (history.isEmpty()) {
                    run.calls("undo()=NONE");
                } else {
                    present = history.removeLast();
                    run.calls("undo()=%d", history.size());
                }
                run.calls("count(0)=%d count(13)=%d", present, history.size());
            }
        }
    }

    private void recorded() {
        e.sentence(HISTORY, "Each call of a method that is described as an act, and returns no error and not NONE,"
                + " records the state that was before it");
        String[] acts = {
            "setPort(0, false)=6", "setPort(5, false)=7", "join(0, 1)=2", "part(2)=3", "part(3)=2", "release(5)=30",
            "set(0, 1)=60", "set(3, 10)=4", "frame(0, 1, 1, 0)=1", "frame(0, 1, 50, 0)=2", "frame(0, 1, 0, 0)=3",
            "frame(5, 1, 0, 0)=0", "forget(50)=4", "pass(1)=7", "pass(10)", "readFrames()=1", "restore()=0",
        };
        String before = e.run("").text(THREE_TEXT).calls(THREE).told().butHistory();
        for (String act : acts) {
            Run run = e.run("").text(THREE_TEXT).calls(THREE).calls(act).calls("count(13)=4 undo()=3 count(13)=3");
            e.same("what is told after " + act + " and undo()", run.told().butHistory(), before);
            e.run("").text(THREE_TEXT).calls(THREE + act).calls("2*undo() count(13)=2 undo()=1 count(8)=0 undo()=0"
                    + " count(2)=10");
        }
    }

    private void notRecorded() {
        e.sentence(HISTORY, "and returns no error and not NONE");
        String[] calls = {
            "setPort(8, true)=UNKNOWN", "setPort(0, true)=NONE", "setPort(5, true)=NONE", "join(8, 0)=UNKNOWN",
            "join(0, 8)=UNKNOWN", "join(0, 0)=BAD_VALUE", "join(0, 2)=NOT_POSSIBLE", "part(8)=UNKNOWN", "part(0)=NONE",
            "release(8)=UNKNOWN", "release(0)=NONE", "set(4, 1)=BAD_VALUE", "set(0, 0)=BAD_VALUE", "set(0, 60)=NONE",
            "frame(8, 1, 0, 0)=UNKNOWN", "frame(0, 0, 0, 0)=BAD_VALUE", "frame(0, 1, 100, 0)=BAD_VALUE",
            "frame(0, 1, 0, 4)=BAD_VALUE", "forget(0)=BAD_VALUE", "forget(1)=NONE", "pass(0)=BAD_VALUE",
            "pass(11)=BAD_VALUE", "clearText()=19 readFrames()=-100", "type(59)=20 readFrames()=-120", "type(0)=20",
            "clearText()=19", "keep()=0", "port(0, 0)=1", "account(5, 0)=2", "entry(0, 0)=50", "where(50)=4",
            "queued(0, 0, 0)=7", "wouldGo(0, 1, 0)=222", "loops()=12", "count(4)=0",
        };
        for (String call : calls) {
            e.run("").text(THREE_TEXT).calls(THREE).calls(call).calls("count(13)=3 undo()=2 count(11)=0 count(8)=1");
        }
    }

    private void snapshot() {
        e.sentence(HISTORY, "There is one snapshot, empty at first");
        e.run("restore()=NONE set(0, 1)=60 restore()=NONE keep()=0 set(0, 2)=1 restore()=0 count(0)=1");
        e.run("set(0, 1)=60 keep()=0 set(0, 2)=1 keep()=0 set(0, 3)=2 restore()=0 count(0)=2 set(0, 4)=2 restore()=0"
                + " count(0)=2 restore()=0 count(0)=2 4*undo() restore()=0 count(0)=2");
    }

    private void states() {
        e.sentence(HISTORY, "A state is everything but the text, the history and the snapshot");
        e.run("type(55)=1 keep()=0 pass(1)=0 type(62)=2 undo()=0 count(14)=2 type(42)=3 restore()=0 count(14)=3"
                + " clearText()=3 restore()=0 count(14)=0 undo()=1 count(14)=0");
        e.run("set(0, 1)=60 keep()=0 set(0, 2)=1 set(0, 3)=2 count(13)=3 restore()=0 count(13)=4 count(0)=1 undo()=3"
                + " count(0)=3 undo()=2 count(0)=2 undo()=1 count(0)=1 undo()=0 count(0)=60");
        e.run("keep()=0 pass(1)=0 keep()=1 pass(1)=0 undo()=1 undo()=0 count(4)=0 restore()=1 count(4)=1");
        e.run("pass(1)=0 keep()=1 undo()=0 count(4)=0 restore()=1");
        for (String later : Edges.LATER_WITHOUT_UNDO) {
            Run with = e.run("").text(Edges.BUSY_TEXT).calls(Edges.BUSY + " keep()" + DIFFERENT + " restore()=1 ");
            Run without = e.run("").text(Edges.BUSY_TEXT).calls(Edges.BUSY + " keep()");
            e.same("what " + later + " answers after restore()", with.answers(later), without.answers(later));
            e.same("what is told after restore() " + later, with.told().butHistory(), without.told().butHistory());
        }
        for (String act : DIFFERENT.strip().split("(?<=\\)) ")) {
            e.act(Edges.BUSY, act.replaceAll("=.*", ""));
        }
    }

    private void constants() {
        e.sentence(ERRORS, "Errors are reported by the constants below");
        e.sentence(ERRORS, "The constants:");
        e.sentence(ERRORS, "`UNKNOWN = -1`: There is no such port");
        e.due("UNKNOWN", LearningRepeater.UNKNOWN, -1);
        e.run("part(7)=-4 part(8)=-1 part(-1)=-1");
        e.sentence(ERRORS, "`BAD_VALUE = -2`: Another argument is out of range");
        e.due("BAD_VALUE", LearningRepeater.BAD_VALUE, -2);
        e.run("forget(0)=-2 forget(1)=-4 forget(99)=-4 forget(100)=-2");
        e.sentence(ERRORS, "`NOT_POSSIBLE = -3`: This is not possible");
        e.due("NOT_POSSIBLE", LearningRepeater.NOT_POSSIBLE, -3);
        e.run("join(0, 1)=1 join(0, 1)=-3 join(2, 3)=2");
        e.sentence(ERRORS, "`NONE = -4`: There is no such thing; not an error");
        e.due("NONE", LearningRepeater.NONE, -4);
        e.run("where(1)=-4 frame(0, 1, 1, 0)=1 where(1)=0");
    }

    private void orderOfChecks() {
        e.sentence(ERRORS, "Where several errors can apply, the order of the @return line is the order of the checks");
        e.run("join(0, 1)=1 join(8, 8)=UNKNOWN join(-1, -1)=UNKNOWN join(8, 0)=UNKNOWN join(0, 8)=UNKNOWN"
                + " join(0, 0)=BAD_VALUE join(1, 1)=BAD_VALUE join(0, 1)=NOT_POSSIBLE");
        e.run("frame(8, 0, 0, 0)=UNKNOWN frame(8, 1, 100, 0)=UNKNOWN frame(8, 1, 0, 4)=UNKNOWN"
                + " frame(-1, 0, -1, -1)=UNKNOWN");
        e.run("port(8, 8)=UNKNOWN port(-1, -1)=UNKNOWN account(8, 11)=UNKNOWN account(-1, -1)=UNKNOWN"
                + " queued(8, -1, 0)=UNKNOWN queued(8, 0, 4)=UNKNOWN queued(-1, -1, -1)=UNKNOWN"
                + " wouldGo(8, 0, 0)=UNKNOWN wouldGo(8, 1, 100)=UNKNOWN wouldGo(-1, 0, -1)=UNKNOWN");
        e.sentence(ERRORS, "NONE is no error; it is returned only if no error applies");
        e.run("setPort(8, true)=UNKNOWN setPort(0, true)=NONE part(8)=UNKNOWN part(0)=NONE release(8)=UNKNOWN"
                + " release(0)=NONE set(0, 60)=NONE set(4, 60)=BAD_VALUE forget(100)=BAD_VALUE forget(99)=NONE"
                + " where(100)=BAD_VALUE where(99)=NONE entry(0, 3)=NONE entry(0, 4)=BAD_VALUE entry(-1, 0)=BAD_VALUE"
                + " entry(99, -1)=BAD_VALUE queued(0, 0, 3)=NONE queued(0, 0, 4)=BAD_VALUE queued(0, -1, 3)=BAD_VALUE"
                + " queued(0, 12, -1)=BAD_VALUE queued(8, 0, 3)=UNKNOWN port(0, 4)=NONE port(8, 4)=UNKNOWN");
    }

    private void changesNothing() {
        e.sentence(ERRORS, "A call that returns an error or NONE changes nothing");
        String[] calls = {
            "setPort(8, false)=UNKNOWN", "setPort(7, false)=NONE", "join(8, 2)=UNKNOWN", "join(2, 2)=BAD_VALUE",
            "join(0, 2)=NOT_POSSIBLE", "part(-1)=UNKNOWN", "part(2)=NONE", "release(8)=UNKNOWN", "release(2)=NONE",
            "set(4, 2)=BAD_VALUE", "set(0, 1001)=BAD_VALUE", "set(0, 40)=NONE", "frame(8, 9, 8, 0)=UNKNOWN",
            "frame(2, 100, 8, 0)=BAD_VALUE", "frame(2, 9, 100, 0)=BAD_VALUE", "frame(2, 9, 8, 4)=BAD_VALUE",
            "forget(0)=BAD_VALUE", "forget(6)=NONE", "pass(11)=BAD_VALUE", "port(8, 0)=UNKNOWN", "port(0, 8)=BAD_VALUE",
            "account(8, 0)=UNKNOWN", "account(0, 11)=BAD_VALUE", "entry(-1, 0)=BAD_VALUE", "entry(20, 0)=NONE",
            "where(100)=BAD_VALUE", "where(5)=NONE", "queued(8, 0, 0)=UNKNOWN", "queued(0, -1, 0)=BAD_VALUE",
            "queued(0, 12, 0)=NONE", "wouldGo(8, 9, 8)=UNKNOWN", "wouldGo(2, 0, 8)=BAD_VALUE",
            "wouldGo(2, 9, 100)=BAD_VALUE", "count(15)=BAD_VALUE", "count(-1)=BAD_VALUE",
        };
        for (String call : calls) {
            e.refused(call);
        }
    }

    private void undo() {
        e.sentence("Promise 13", "Removes and restores the latest state of the history");
        e.run("setPort(0, false)=7 frame(1, 1, 0, 0)=3 count(12)=6 undo()=1 count(12)=0 where(1)=NONE port(0, 0)=0"
                + " undo()=0 port(0, 0)=1");
        e.sentence("Promise 13", "Returns the number of states that are left");
        e.run("pass(1)=0 undo()=0 2*pass(1)=0 undo()=1 undo()=0 3*pass(1)=0 undo()=2 4*pass(1)=0 undo()=3 undo()=2"
                + " undo()=1 undo()=0 undo()=NONE 5*pass(1)=0 undo()=3");
        e.sentence("Promise 13", "NONE if the history is empty");
        e.run("undo()=NONE undo()=NONE count(13)=0 pass(1)=0 undo()=0 undo()=NONE count(4)=0");
        e.changesNothing(Edges.BUSY_TEXT, Edges.BUSY + " 4*undo()", "undo()=NONE");
        e.changesNothing("", "", "undo()=NONE");
        e.changesNothing("7>8@1", "keep()=0", "undo()=NONE");
    }

    private void keep() {
        e.sentence("Promise 14", "Takes a snapshot of the state, in place of the one that was");
        e.run("keep()=0 frame(0, 1, 1, 0)=1 keep()=0 frame(0, 2, 2, 0)=1 restore()=0 where(1)=0 where(2)=NONE");
        e.run("frame(0, 1, 1, 0)=1 keep()=0 undo()=0 keep()=0 frame(0, 2, 2, 0)=1 restore()=0 count(5)=0");
        e.sentence("Promise 14", "Returns the clock");
        e.run("keep()=0 keep()=0 pass(1)=0 keep()=1 pass(10)=0 keep()=11 undo()=1 keep()=1 count(13)=1");
        String told = e.run(Edges.BUSY).told().all();
        e.same("what is told after keep()", e.run(Edges.BUSY + " keep()=1").told().all(), told);
    }

    private void restore() {
        e.sentence("Promise 15", "Restores the state of the snapshot, which stays");
        e.run("pass(1)=0 keep()=1 frame(0, 1, 1, 0)=1 restore()=1 where(1)=NONE frame(0, 2, 2, 0)=1 pass(2)=0"
                + " restore()=1 where(2)=NONE restore()=1 count(4)=1");
        e.sentence("Promise 15", "This is an act");
        e.run("keep()=0 count(13)=0 restore()=0 count(13)=1 pass(1)=0 restore()=0 count(13)=3 count(4)=0 undo()=2"
                + " count(4)=1 undo()=1 count(4)=0 undo()=0 undo()=NONE");
        e.act("keep()=0 pass(1)=0", "restore()");
        e.act(Edges.BUSY, "restore()");
        e.sentence("Promise 15", "Returns the clock then");
        e.run("pass(3)=0 keep()=3 pass(4)=0 restore()=3 count(4)=3 undo()=2 count(4)=7 undo()=1 undo()=0 count(4)=0"
                + " restore()=3 count(4)=3");
        e.sentence("Promise 15", "NONE if there is no snapshot");
        e.run("restore()=NONE pass(1)=0 restore()=NONE count(4)=1 count(13)=1 keep()=1 restore()=1");
        e.changesNothing(Edges.BUSY_TEXT, Edges.BUSY.replace("keep()=1", ""), "restore()=NONE");
        e.changesNothing("", "", "restore()=NONE");
    }
}
