/** What the tests of the document's sentences have in common. */
final class Edges {
    static final String[] NO_PORTS = {"-1", "8", "MIN", "MAX"};

    /**
     * With a bit of everything: ports 0 and 1 as well as 4 and 6 are joined, 7 is down, 4 in quarantine for a storm;
     * entries, frames that wait, a snapshot, a full history, and moves of 5, which has no entry.
     */
    static final String BUSY = "set(0, 40) set(1, 20) set(2, 3) set(3, 2) join(0, 1) join(4, 6)"
            + " frame(2, 5, 5, 1)=1 frame(3, 5, 5, 2)=1 pass(1) forget(5)=3 keep()=1 setPort(7, false)=7"
            + " frame(2, 9, 0, 3)=3 3*frame(4, 6, 0, 1)=3 frame(4, 6, 0, 0)=5 frame(3, 8, 9, 0)=2";
    static final String BUSY_TEXT = "7>8!2@2;9>*@3";

    static final String[] LATER_WITHOUT_UNDO = {
        "", "restore()", "readFrames()", "type(59) readFrames()", "pass(1)", "pass(10)", "frame(2, 5, 0, 0)",
        "frame(2, 9, 8, 1)", "frame(2, 5, 5, 0) entry(0, 3)", "2*frame(2, 7, 0, 0)",
    };
    private static final String[] UNDO = {"undo()", "2*undo()", "3*undo()", "4*undo()", "5*undo()"};

    private final Checks checks;
    private final Document document;

    Edges(Checks checks, Document document) {
        this.checks = checks;
        this.document = document;
    }

    /** Names the sentence, or a part of it, for which the following tests are. */
    void sentence(String section, String words) {
        checks.promise(section + ": " + words);
        checks.due("whether the sentence stands in the document,", document.name(section, words) ? 1 : 0, 1);
    }

    /** A new object with these calls. */
    Run run(String format, Object... values) {
        return new Run(checks).calls(format, values);
    }

    /** 12 frames wait at each port p, from 11 + (p + 1) % 8 to 1 + p, each of the sources at a port of its own. */
    static Run fillAllQueues(Run run) {
        for (int port = 0; port < 8; port++) {
            run.calls("frame(%1$d, %2$d, %2$d, 0)=1", port, 1 + port);
        }
        for (int number = 0; number < 96; number++) {
            int from = (number + 1) % 8;
            run.calls("frame(%d, %d, %d, %d)=2", from, 11 + from, 1 + number % 8, priority(number));
        }
        return run;
    }

    /** That of the frame that gets this number in fillAllQueues(). */
    static int priority(int number) {
        return (number / 8 * 7 + number % 8) % 4;
    }

    void due(String call, int got, int want) {
        checks.due(call, got, want);
    }

    void same(String what, String got, String want) {
        checks.same(what, got, want);
    }

    /** The call changes nothing: all that is told, then and later, is the same without it. */
    void changesNothing(String text, String before, String call) {
        for (String later : LATER_WITHOUT_UNDO) {
            changesNothing(text, before, call, later);
        }
        for (String later : UNDO) {
            changesNothing(text, before, call, later);
        }
    }

    private void changesNothing(String text, String before, String call, String later) {
        Run with = run("").text(text).calls(before).calls(call);
        Run without = run("").text(text).calls(before);
        checks.same("what " + later + " answers after " + call, with.answers(later), without.answers(later));
        checks.same("what is told after " + call + " " + later, with.told().all(), without.told().all());
    }

    /** The call changes nothing of an object with a bit of everything. */
    void refused(String format, Object... values) {
        changesNothing(BUSY_TEXT, BUSY, values.length == 0 ? format : String.format(format, values));
    }

    /** The call changes what is told, and records the state that was before it: undo() brings that back. */
    void act(String before, String call) {
        Run as = run("").text(BUSY_TEXT).calls(before);
        int states = Integer.parseInt(as.answers("count(13)").strip());
        String told = as.told().butHistory();
        Run with = run("").text(BUSY_TEXT).calls(before).calls(call).calls("count(13)=%d", Math.min(states + 1, 4));
        checks.due("whether " + call + " changes anything,", with.told().butHistory().equals(told) ? 0 : 1, 1);
        for (String later : LATER_WITHOUT_UNDO) {
            with = run("").text(BUSY_TEXT).calls(before).calls(call).calls("undo()=%d", Math.min(states, 3));
            Run without = run("").text(BUSY_TEXT).calls(before);
            checks.same("what " + later + " answers after " + call + " and undo()", with.answers(later),
                    without.answers(later));
            checks.same("what is told after " + call + " and undo() " + later, with.told().butHistory(),
                    without.told().butHistory());
        }
    }
}
