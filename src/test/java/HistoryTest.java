import java.util.function.Consumer;

/** Promises 13 to 15: undo, keep and restore, and which calls are acts. */
public final class HistoryTest {
    private static final int NONE = LearningRepeater.NONE;

    private static final Checks checks = new Checks("HistoryTest");

    public static void main(String[] args) {
        undo();
        undoBringsBackAll();
        fourStates();
        acts();
        noActs();
        keepAndRestore();
        restoreIsAnAct();
        snapshotStays();
        textIsNoPart();
        checks.end();
    }

    private static void undo() {
        checks.promise("promise 13");
        LearningRepeater x = new LearningRepeater();
        checks.due("undo()", x.undo(), NONE);
        x.set(0, 50);
        x.set(0, 40);
        checks.due("undo()", x.undo(), 1);
        checks.due("count(0)", x.count(0), 50);
        x.set(0, 30);
        checks.due("count(13)", x.count(13), 2);
        checks.due("undo()", x.undo(), 1);
        checks.due("count(0)", x.count(0), 50);
        checks.due("undo()", x.undo(), 0);
        checks.due("count(0)", x.count(0), 60);
        checks.due("undo()", x.undo(), NONE);
        checks.due("count(0)", x.count(0), 60);
        checks.due("count(13)", x.count(13), 0);
    }

    /** With all of what a state is made of. */
    private static void busy(LearningRepeater x) {
        x.set(0, 40);
        x.set(1, 20);
        x.set(2, 2);
        x.set(3, 2);
        x.join(0, 1);
        x.join(4, 6);
        x.frame(2, 5, 0, 1);
        x.frame(3, 5, 0, 2);
        x.pass(1);
        x.frame(4, 6, 0, 0);
        x.frame(4, 6, 0, 0);
        x.frame(4, 6, 0, 0);
        x.setPort(7, false);
        x.frame(2, 9, 5, 3);
    }

    private static void different(LearningRepeater x) {
        x.set(0, 1);
        x.set(1, 1);
        x.set(2, 1);
        x.set(3, 1);
        x.part(0);
        x.join(0, 2);
        x.release(4);
        x.setPort(7, true);
        x.setPort(3, false);
        x.pass(10);
        for (int k = 0; k < 15; k++) {
            x.frame(k % 3, 10 + k, 0, 0);
            x.frame((k + 1) % 3, 5, 0, 0);
            x.frame(7, 1 + k, 0, 3);
        }
    }

    private static void undoBringsBackAll() {
        checks.promise("promise 13");
        LearningRepeater as = new LearningRepeater();
        busy(as);
        String before = Checks.toldButHistory(as);
        LearningRepeater x = new LearningRepeater();
        busy(x);
        x.pass(10);
        x.frame(2, 5, 0, 0);
        x.frame(6, 5, 0, 0);
        x.setPort(0, false);
        for (int left = 3; left >= 0; left--) {
            checks.due("undo()", x.undo(), left);
        }
        checks.same("what is told after undo()", Checks.toldButHistory(x), before);
        checks.due("frame(6, 5, 0, 0), with the moves as they were", x.frame(6, 5, 0, 0), as.frame(6, 5, 0, 0));
        checks.due("frame(2, 5, 0, 0)", x.frame(2, 5, 0, 0), as.frame(2, 5, 0, 0));
        x.pass(10);
        as.pass(10);
        checks.same("what is told later", Checks.toldButHistory(x), Checks.toldButHistory(as));
    }

    private static void fourStates() {
        checks.promise("promise 13");
        LearningRepeater x = new LearningRepeater();
        for (int k = 1; k <= 7; k++) {
            x.set(0, k);
            checks.due("count(13)", x.count(13), Math.min(k, 4));
        }
        for (int left = 3; left >= 0; left--) {
            checks.due("undo()", x.undo(), left);
            checks.due("count(0)", x.count(0), 3 + left);
        }
        checks.due("undo()", x.undo(), NONE);
        checks.due("count(0)", x.count(0), 3);
    }

    private static void act(String name, Consumer<LearningRepeater> act) {
        LearningRepeater x = new LearningRepeater();
        x.frame(0, 1, 0, 0);
        x.setPort(7, false);
        Checks.type(x, "1>2@7");
        String before = Checks.told(x);
        LearningRepeater y = new LearningRepeater();
        y.frame(0, 1, 0, 0);
        y.setPort(7, false);
        Checks.type(y, "1>2@7");
        act.accept(y);
        checks.due("count(13) after " + name, y.count(13), 3);
        checks.due("undo() after " + name, y.undo(), 2);
        checks.same("what is told after " + name + " and undo()", Checks.told(y), before);
    }

    private static void acts() {
        checks.promise("history, acts");
        act("setPort", x -> x.setPort(3, false));
        act("join", x -> x.join(3, 4));
        act("set", x -> x.set(3, 10));
        act("frame", x -> x.frame(3, 1, 0, 0));
        act("frame that is turned away", x -> x.frame(7, 1, 0, 0));
        act("forget", x -> x.forget(1));
        act("pass", x -> x.pass(1));
        act("readFrames", LearningRepeater::readFrames);
    }

    private static void noAct(String name, Consumer<LearningRepeater> call) {
        LearningRepeater x = new LearningRepeater();
        x.frame(0, 1, 0, 0);
        call.accept(x);
        checks.due("count(13) after " + name, x.count(13), 1);
    }

    private static void noActs() {
        checks.promise("history, no acts");
        noAct("keep", LearningRepeater::keep);
        noAct("type", x -> x.type('1'));
        noAct("clearText", LearningRepeater::clearText);
        noAct("wouldGo", x -> x.wouldGo(0, 1, 2));
        noAct("loops", LearningRepeater::loops);
        noAct("restore without a snapshot", LearningRepeater::restore);
        noAct("setPort as it is", x -> x.setPort(0, true));
        noAct("readFrames of a fault", LearningRepeater::readFrames);
    }

    private static void keepAndRestore() {
        checks.promise("promises 14 and 15");
        checks.refused("restore()", HistoryTest::busy, LearningRepeater::restore, NONE);
        LearningRepeater as = new LearningRepeater();
        busy(as);
        String before = Checks.toldButHistory(as);
        LearningRepeater x = new LearningRepeater();
        busy(x);
        checks.due("keep()", x.keep(), 1);
        checks.same("what is told after keep()", Checks.toldButHistory(x), before);
        different(x);
        checks.due("restore()", x.restore(), 1);
        checks.same("what is told after restore()", Checks.toldButHistory(x), before);
        checks.due("frame(6, 5, 0, 0), with the moves as they were", x.frame(6, 5, 0, 0), as.frame(6, 5, 0, 0));
        checks.due("frame(2, 5, 0, 0)", x.frame(2, 5, 0, 0), as.frame(2, 5, 0, 0));
    }

    private static void restoreIsAnAct() {
        checks.promise("promise 15");
        LearningRepeater x = new LearningRepeater();
        x.keep();
        x.pass(3);
        x.frame(0, 1, 0, 0);
        checks.due("count(13)", x.count(13), 2);
        checks.due("restore()", x.restore(), 0);
        checks.due("count(13), as the history is no part of a state", x.count(13), 3);
        checks.due("count(4)", x.count(4), 0);
        checks.due("undo()", x.undo(), 2);
        checks.due("count(4)", x.count(4), 3);
        checks.due("where(1)", x.where(1), 0);
    }

    private static void snapshotStays() {
        checks.promise("promises 14 and 15");
        LearningRepeater x = new LearningRepeater();
        x.pass(1);
        checks.due("keep()", x.keep(), 1);
        x.pass(2);
        checks.due("undo()", x.undo(), 1);
        x.undo();
        checks.due("count(4)", x.count(4), 0);
        checks.due("restore(), as undo() leaves the snapshot", x.restore(), 1);
        x.frame(0, 1, 0, 0);
        checks.due("restore(), as the snapshot stays", x.restore(), 1);
        checks.due("where(1)", x.where(1), NONE);
        x.pass(5);
        checks.due("keep(), in place of the one that was", x.keep(), 6);
        x.pass(1);
        checks.due("restore()", x.restore(), 6);
    }

    private static void textIsNoPart() {
        checks.promise("promises 13 and 15, the text");
        LearningRepeater x = new LearningRepeater();
        Checks.type(x, "12");
        x.keep();
        x.pass(1);
        Checks.type(x, "34");
        x.undo();
        checks.due("count(14) after undo()", x.count(14), 4);
        x.clearText();
        x.restore();
        checks.due("count(14) after restore()", x.count(14), 0);
    }
}
