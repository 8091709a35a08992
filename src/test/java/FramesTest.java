/** Promises 7 to 9: frame, forget and pass. */
public final class FramesTest {
    private static final int UNKNOWN = LearningRepeater.UNKNOWN;
    private static final int BAD_VALUE = LearningRepeater.BAD_VALUE;
    private static final int NONE = LearningRepeater.NONE;

    private static final Checks checks = new Checks("FramesTest");

    public static void main(String[] args) {
        turnedAway();
        learnsAndRefreshes();
        filtersAndGoesOut();
        deadEnd();
        floods();
        storms();
        moves();
        movesAgeAndOutliveEntries();
        tableIsFull();
        queues();
        queuesAreApart();
        firstPortAndLastAddress();
        frameIsAnAct();
        forget();
        passSends();
        passOverCables();
        passInOrder();
        passEndsQuarantines();
        passAgesEntries();
        passIsOneAct();
        wrongInputs();
        checks.end();
    }

    private static void turnedAway() {
        checks.promise("promise 7, step 1");
        LearningRepeater x = new LearningRepeater();
        x.setPort(2, false);
        checks.due("frame(2, 1, 0, 0)", x.frame(2, 1, 0, 0), 0);
        checks.due("where(1)", x.where(1), NONE);
        checks.due("count(12)", x.count(12), 0);
        checks.due("account(2, 0)", x.account(2, 0), 1);
        checks.due("account(2, 1)", x.account(2, 1), 1);
        checks.due("port(2, 7)", x.port(2, 7), 0);
        checks.due("count(13)", x.count(13), 2);
        x.frame(0, 1, 0, 0);
        checks.due("frame(2, 1, 0, 0)", x.frame(2, 1, 0, 0), 0);
        checks.due("where(1)", x.where(1), 0);
        checks.due("entry(0, 3)", x.entry(0, 3), 0);
    }

    private static void learnsAndRefreshes() {
        checks.promise("promise 7, steps 2 and 3");
        LearningRepeater x = new LearningRepeater();
        x.frame(0, 1, 0, 0);
        x.pass(5);
        checks.due("entry(0, 2)", x.entry(0, 2), 5);
        x.frame(0, 1, 0, 0);
        checks.due("entry(0, 2) after a frame at the same port", x.entry(0, 2), 0);
        checks.due("entry(0, 3)", x.entry(0, 3), 0);
        x.pass(3);
        x.frame(7, 1, 0, 0);
        checks.due("where(1) after a move", x.where(1), 7);
        checks.due("entry(0, 2)", x.entry(0, 2), 0);
        checks.due("entry(0, 3)", x.entry(0, 3), 1);
        checks.due("count(5)", x.count(5), 1);
    }

    private static void filtersAndGoesOut() {
        checks.promise("promise 7, step 4");
        LearningRepeater x = new LearningRepeater();
        x.frame(0, 1, 0, 0);
        checks.due("frame to an address at the same port", x.frame(0, 2, 1, 0), 1);
        checks.due("account(0, 2)", x.account(0, 2), 1);
        checks.due("frame to its own source", x.frame(3, 4, 4, 0), 1);
        checks.due("where(4)", x.where(4), 3);
        int number = x.count(12);
        checks.due("frame to an address at another port", x.frame(3, 4, 1, 2), 2);
        checks.due("count(12)", x.count(12), number + 1);
        checks.due("queued(0, 0, 0)", x.queued(0, 0, 0), 4);
        checks.due("queued(0, 0, 1)", x.queued(0, 0, 1), 1);
        checks.due("queued(0, 0, 2)", x.queued(0, 0, 2), 2);
        checks.due("queued(0, 0, 3)", x.queued(0, 0, 3), number);
        checks.due("account(3, 3)", x.account(3, 3), 1);
        checks.due("account(3, 4)", x.account(3, 4), 0);
        checks.due("frame after the move of its destination", x.frame(5, 1, 2, 0), 2);
        checks.due("frame to the moved one", x.frame(0, 2, 1, 0), 2);
        checks.due("port(5, 5)", x.port(5, 5), 2);
    }

    private static void deadEnd() {
        checks.promise("promise 7, step 4");
        LearningRepeater x = new LearningRepeater();
        x.frame(0, 1, 0, 0);
        x.setPort(0, false);
        int number = x.count(12);
        checks.due("frame to an address at a port that is down", x.frame(1, 2, 1, 0), 6);
        checks.due("account(1, 6)", x.account(1, 6), 1);
        checks.due("account(1, 5)", x.account(1, 5), 0);
        checks.due("count(12)", x.count(12), number);
        checks.due("where(2)", x.where(2), 1);
        checks.due("port(1, 7)", x.port(1, 7), 0);
        checks.due("frame of the one that was there", x.frame(2, 1, 2, 0), 2);
        checks.due("where(1)", x.where(1), 2);
    }

    private static void floods() {
        checks.promise("promise 7, step 5");
        LearningRepeater x = new LearningRepeater();
        x.setPort(6, false);
        checks.due("frame(1, 1, 0, 1)", x.frame(1, 1, 0, 1), 3);
        int number = 0;
        for (int port = 0; port < 8; port++) {
            boolean goes = port != 1 && port != 6;
            checks.due("port(" + port + ", 5)", x.port(port, 5), goes ? 1 : 0);
            checks.due("queued(" + port + ", 0, 3)", x.queued(port, 0, 3), goes ? number++ : NONE);
        }
        checks.due("frame to an address without entry", x.frame(1, 1, 99, 1), 3);
        checks.due("queued(7, 1, 1)", x.queued(7, 1, 1), 99);
        checks.due("port(1, 7)", x.port(1, 7), 2);
        for (int port = 0; port < 8; port++) {
            if (port != 1) {
                x.setPort(port, false);
            }
        }
        number = x.count(12);
        checks.due("flood that goes out of no port", x.frame(1, 1, 0, 0), 3);
        checks.due("account(1, 4)", x.account(1, 4), 3);
        checks.due("count(12)", x.count(12), number);
    }

    private static void storms() {
        checks.promise("promise 7, step 5");
        LearningRepeater x = new LearningRepeater();
        x.frame(5, 50, 0, 0);
        for (int k = 0; k < 10; k++) {
            checks.due("flood " + k, x.frame(4, 1 + k, 0, 0), 3);
        }
        checks.due("port(4, 6)", x.port(4, 6), 10);
        int waiting = x.port(4, 5);
        checks.due("port(4, 5)", waiting, 1);
        checks.due("frame that is no flood", x.frame(4, 1, 50, 0), 2);
        checks.due("frame after ten floods", x.frame(4, 11, 0, 0), 5);
        checks.due("port(4, 1)", x.port(4, 1), 0);
        checks.due("port(4, 2)", x.port(4, 2), 30);
        checks.due("port(4, 3)", x.port(4, 3), 2);
        checks.due("port(4, 5), as the queue stays", x.port(4, 5), waiting);
        checks.due("port(4, 6)", x.port(4, 6), 0);
        checks.due("port(4, 7)", x.port(4, 7), 10);
        checks.due("where(11)", x.where(11), NONE);
        checks.due("where(50)", x.where(50), 5);
        checks.due("account(4, 4)", x.account(4, 4), 10);
        checks.due("account(4, 5)", x.account(4, 5), 1);
        checks.due("account(4, 0)", x.account(4, 0), 12);
        checks.due("count(11)", x.count(11), 1);
        checks.due("flood at another port", x.frame(5, 50, 0, 0), 3);
        x.release(4);
        checks.due("flood in the same second", x.frame(4, 11, 0, 0), 5);
        x.release(4);
        x.pass(1);
        checks.due("flood in the next second", x.frame(4, 11, 0, 0), 3);
        checks.due("port(4, 7)", x.port(4, 7), 1);
        x.set(2, 1);
        checks.due("flood with fewer floods set", x.frame(4, 11, 0, 0), 5);
    }

    private static void moves() {
        checks.promise("promise 7, step 2");
        LearningRepeater x = new LearningRepeater();
        x.set(1, 7);
        x.frame(0, 1, 0, 0);
        x.frame(2, 2, 0, 0);
        x.frame(3, 3, 0, 0);
        int number = x.count(12);
        checks.due("first move", x.frame(1, 1, 3, 0), 2);
        checks.due("second move", x.frame(0, 1, 3, 0), 2);
        checks.due("third move", x.frame(2, 1, 3, 0), 4);
        checks.due("count(12)", x.count(12), number + 2);
        checks.due("port(2, 1)", x.port(2, 1), 0);
        checks.due("port(2, 2)", x.port(2, 2), 7);
        checks.due("port(2, 3)", x.port(2, 3), 1);
        checks.due("where(1)", x.where(1), NONE);
        checks.due("where(2), at the same port", x.where(2), NONE);
        checks.due("where(3)", x.where(3), 3);
        checks.due("account(2, 5)", x.account(2, 5), 1);
        checks.due("account(2, 0)", x.account(2, 0), 2);
        checks.due("frame without an entry is no move", x.frame(1, 1, 3, 0), 2);
        checks.due("entry(0, 3)", x.entry(0, 3), 3);
        checks.due("fourth move", x.frame(4, 1, 3, 0), 4);
        checks.due("port(4, 3)", x.port(4, 3), 1);
        checks.due("count(7)", x.count(7), 2);
        checks.due("count(11)", x.count(11), 2);
    }

    private static void movesAgeAndOutliveEntries() {
        checks.promise("promise 7, step 2");
        LearningRepeater x = new LearningRepeater();
        x.frame(0, 1, 0, 0);
        x.frame(1, 1, 0, 0);
        x.pass(9);
        checks.due("entry(0, 3) after 9 seconds", x.entry(0, 3), 1);
        x.frame(2, 1, 0, 0);
        checks.due("third move within 10 seconds", x.frame(3, 1, 0, 0), 4);
        x.undo();
        checks.due("entry(0, 3)", x.entry(0, 3), 2);
        x.pass(1);
        checks.due("entry(0, 3) after 10 seconds", x.entry(0, 3), 1);
        checks.due("second move within 10 seconds", x.frame(3, 1, 0, 0), 3);
        x.forget(1);
        x.frame(4, 1, 0, 0);
        checks.due("entry(0, 3) after the entry was removed", x.entry(0, 3), 2);
        checks.due("third move", x.frame(5, 1, 0, 0), 4);
        x.frame(6, 1, 0, 0);
        x.pass(9);
        checks.due("entry(0, 3) after 9 seconds", x.entry(0, 3), 2);
        x.pass(1);
        checks.due("entry(0, 3) after 10 seconds", x.entry(0, 3), 0);
    }

    private static void tableIsFull() {
        checks.promise("promise 7, step 3");
        LearningRepeater x = new LearningRepeater();
        x.set(2, 50);
        x.frame(7, 60, 0, 0);
        x.pass(1);
        for (int address = 40; address > 21; address--) {
            x.frame(7, address, 0, 0);
        }
        checks.due("count(5)", x.count(5), 20);
        x.frame(7, 60, 22, 0);
        checks.due("frame of a known source", x.count(5), 20);
        checks.due("where(22)", x.where(22), 7);
        checks.due("frame to the entry that is removed", x.frame(0, 1, 22, 0), 3);
        checks.due("where(22), the least address of the least time", x.where(22), NONE);
        checks.due("where(60)", x.where(60), 7);
        checks.due("count(5)", x.count(5), 20);
        x.pass(1);
        for (int address = 40; address > 22; address--) {
            x.frame(7, address, 0, 0);
        }
        x.frame(7, 99, 0, 0);
        checks.due("where(1), the least time", x.where(1), NONE);
        x.frame(7, 98, 0, 0);
        checks.due("where(60), then the least time", x.where(60), NONE);
        checks.due("where(23)", x.where(23), 7);
        checks.due("count(5)", x.count(5), 20);
    }

    private static void queues() {
        checks.promise("promise 7, queues");
        LearningRepeater x = new LearningRepeater();
        x.frame(0, 1, 1, 0);
        for (int k = 0; k < 12; k++) {
            checks.due("frame " + k, x.frame(1, 2, 1, k % 4), 2);
        }
        checks.due("port(0, 5)", x.port(0, 5), 12);
        int[] numbers = {3, 7, 11, 2, 6, 10, 1, 5, 9, 0, 4, 8};
        for (int place = 0; place < 12; place++) {
            checks.due("queued(0, " + place + ", 3)", x.queued(0, place, 3), numbers[place]);
            checks.due("queued(0, " + place + ", 2)", x.queued(0, place, 2), numbers[place] % 4);
        }
        checks.due("frame to a full queue", x.frame(1, 2, 1, 3), 2);
        checks.due("port(0, 5)", x.port(0, 5), 12);
        checks.due("queued(0, 3, 3)", x.queued(0, 3, 3), 2);
        checks.due("account(0, 7)", x.account(0, 7), 12);
        checks.due("account(0, 8)", x.account(0, 8), 1);
        checks.due("count(12)", x.count(12), 12);
        checks.due("flood over a full queue", x.frame(1, 2, 0, 0), 3);
        checks.due("account(0, 8)", x.account(0, 8), 2);
        checks.due("queued(2, 0, 3)", x.queued(2, 0, 3), 12);
    }

    private static void queuesAreApart() {
        checks.promise("promise 7, queues");
        LearningRepeater x = new LearningRepeater();
        x.frame(0, 1, 1, 0);
        x.frame(1, 2, 2, 0);
        x.frame(7, 70, 70, 0);
        x.frame(3, 9, 2, 1);
        x.frame(3, 8, 70, 2);
        for (int k = 0; k < 12; k++) {
            x.frame(3, 20 + k % 4, 1, 0);
        }
        checks.due("port(0, 5)", x.port(0, 5), 12);
        checks.due("port(1, 5)", x.port(1, 5), 1);
        checks.due("queued(1, 0, 0)", x.queued(1, 0, 0), 9);
        checks.due("queued(1, 0, 1)", x.queued(1, 0, 1), 2);
        checks.due("queued(1, 0, 2)", x.queued(1, 0, 2), 1);
        checks.due("queued(1, 0, 3)", x.queued(1, 0, 3), 0);
        x.pass(1);
        for (int place = 0; place < 8; place++) {
            checks.due("queued(0, " + place + ", 0)", x.queued(0, place, 0), 20 + place % 4);
        }
        checks.due("queued(0, 8, 0)", x.queued(0, 8, 0), NONE);
        checks.due("port(1, 5)", x.port(1, 5), 0);
        for (int k = 0; k < 12; k++) {
            checks.due("frame to the last port", x.frame(3, 9, 70, k % 4), 2);
        }
        checks.due("queued(7, 0, 2)", x.queued(7, 0, 2), 3);
        checks.due("queued(7, 11, 2)", x.queued(7, 11, 2), 0);
    }

    private static void firstPortAndLastAddress() {
        checks.promise("promises 7 and 9, port 0 and address 99");
        LearningRepeater x = new LearningRepeater();
        x.set(0, 2);
        x.frame(0, 99, 0, 0);
        checks.due("port(0, 6)", x.port(0, 6), 1);
        checks.due("count(10)", x.count(10), 1);
        x.pass(2);
        checks.due("where(99), as it is too old", x.where(99), NONE);
        checks.due("count(5)", x.count(5), 0);
        x.set(2, 1);
        x.frame(0, 99, 0, 0);
        checks.due("frame(0, 99, 0, 0)", x.frame(0, 99, 0, 0), 5);
        checks.due("where(99), as its port is in quarantine", x.where(99), NONE);
        checks.due("count(7)", x.count(7), 1);
        checks.due("count(10)", x.count(10), 3);
        x.pass(10);
        x.pass(10);
        x.pass(9);
        checks.due("port(0, 2)", x.port(0, 2), 1);
        checks.due("count(7)", x.count(7), 1);
        x.pass(1);
        checks.due("count(7)", x.count(7), 0);

        x = new LearningRepeater();
        x.set(2, 50);
        x.frame(7, 99, 0, 0);
        x.pass(1);
        for (int address = 1; address <= 20; address++) {
            checks.due("where(99)", x.where(99), 7);
            x.frame(6, address, 0, 0);
        }
        checks.due("where(99), the oldest", x.where(99), NONE);
        x.frame(5, 2, 0, 0);
        x.frame(4, 2, 0, 0);
        x.frame(5, 20, 0, 0);
        int[] moved = {0, 2, 0};
        for (int entry = 0; entry < 3; entry++) {
            checks.due("entry(" + entry + ", 3)", x.entry(entry, 3), moved[entry]);
        }
        checks.due("entry(19, 3)", x.entry(19, 3), 1);
        x.frame(0, 99, 0, 0);
        x.frame(1, 99, 0, 0);
        checks.due("entry(19, 0)", x.entry(19, 0), 99);
        checks.due("entry(19, 3)", x.entry(19, 3), 1);
        x.pass(9);
        x.frame(0, 2, 0, 0);
        checks.due("where(2), that has moved a third time", x.where(2), NONE);
        checks.due("port(0, 3), for three moves", x.port(0, 3), 1);
    }

    private static void frameIsAnAct() {
        checks.promise("promise 7, history");
        LearningRepeater x = new LearningRepeater();
        x.frame(0, 1, 2, 3);
        checks.due("count(13)", x.count(13), 1);
        x.frame(1, 1, 2, 3);
        checks.due("undo()", x.undo(), 1);
        checks.due("where(1)", x.where(1), 0);
        checks.due("entry(0, 3)", x.entry(0, 3), 0);
        checks.due("undo()", x.undo(), 0);
        checks.same("what is told after undo()", Checks.told(x), Checks.told(new LearningRepeater()));
    }

    private static void forget() {
        checks.promise("promise 8");
        LearningRepeater x = new LearningRepeater();
        checks.due("forget(1)", x.forget(1), NONE);
        x.frame(7, 99, 0, 0);
        x.frame(0, 1, 0, 0);
        x.frame(1, 50, 0, 0);
        checks.due("forget(99)", x.forget(99), 7);
        checks.due("where(99)", x.where(99), NONE);
        checks.due("forget(99)", x.forget(99), NONE);
        checks.due("forget(1)", x.forget(1), 0);
        checks.due("count(5)", x.count(5), 1);
        checks.due("entry(0, 0)", x.entry(0, 0), 50);
        checks.due("count(13)", x.count(13), 4);
        checks.due("undo()", x.undo(), 3);
        checks.due("where(1)", x.where(1), 0);
    }

    private static void passSends() {
        checks.promise("promise 9, step 1");
        LearningRepeater x = new LearningRepeater();
        x.frame(0, 1, 1, 0);
        x.frame(2, 3, 3, 0);
        for (int k = 0; k < 10; k++) {
            x.frame(1, 2, 1, k % 2);
        }
        x.frame(1, 2, 3, 0);
        checks.due("pass(1)", x.pass(1), 5);
        checks.due("count(4)", x.count(4), 1);
        checks.due("port(0, 5)", x.port(0, 5), 6);
        checks.due("queued(0, 0, 3)", x.queued(0, 0, 3), 9);
        checks.due("queued(0, 1, 3)", x.queued(0, 1, 3), 0);
        checks.due("account(0, 9)", x.account(0, 9), 4);
        checks.due("account(0, 10)", x.account(0, 10), 4);
        x.set(3, 1);
        checks.due("pass(2) with rate 1", x.pass(2), 2);
        checks.due("queued(0, 0, 3)", x.queued(0, 0, 3), 2);
        x.frame(1, 2, 1, 3);
        checks.due("queued(0, 0, 2), a new one of great priority", x.queued(0, 0, 2), 3);
        x.set(3, 10);
        x.setPort(2, false);
        checks.due("pass(1) with rate 10", x.pass(1), 5);
        checks.due("account(0, 9)", x.account(0, 9), 11);
        checks.due("pass(10)", x.pass(10), 0);
        checks.due("count(4)", x.count(4), 14);
    }

    private static void passOverCables() {
        checks.promise("promise 9, steps 1 and 2");
        LearningRepeater x = new LearningRepeater();
        x.join(0, 1);
        x.frame(0, 1, 1, 0);
        checks.due("frame(2, 2, 1, 3)", x.frame(2, 2, 1, 3), 2);
        checks.due("pass(1)", x.pass(1), 1);
        checks.due("account(0, 9)", x.account(0, 9), 1);
        checks.due("account(0, 10)", x.account(0, 10), 0);
        checks.due("where(2), that has moved", x.where(2), 1);
        checks.due("account(1, 0)", x.account(1, 0), 1);
        checks.due("account(1, 3)", x.account(1, 3), 1);
        checks.due("queued(0, 0, 2), as the priority stays", x.queued(0, 0, 2), 3);
        checks.due("queued(0, 0, 3), a number of its own", x.queued(0, 0, 3), 1);
        checks.due("entry(1, 2), as its time is before the clock goes on", x.entry(1, 2), 1);
        x.setPort(1, false);
        checks.due("pass(1)", x.pass(1), 1);
        checks.due("account(0, 10)", x.account(0, 10), 0);
        checks.due("account(1, 1), at the end that is not open", x.account(1, 1), 1);
        checks.due("count(9)", x.count(9), 0);

        x = new LearningRepeater();
        x.frame(2, 9, 0, 0);
        checks.due("frame(0, 1, 1, 0)", x.frame(0, 1, 1, 0), 1);
        x.set(2, 1);
        x.pass(1);
        x.join(0, 1);
        x.frame(3, 8, 1, 0);
        x.frame(3, 8, 1, 0);
        x.forget(1);
        checks.due("frame(1, 7, 0, 0), a flood of this second", x.frame(1, 7, 0, 0), 3);
        checks.due("pass(1)", x.pass(1), 9);
        checks.due("port(1, 3), as the floods count with it", x.port(1, 3), 2);
        checks.due("port(1, 2), as the second that is passing counts", x.port(1, 2), 29);
        checks.due("account(1, 1), of the two frames behind it", x.account(1, 1), 2);
        checks.due("port(1, 7)", x.port(1, 7), 0);
    }

    private static void passInOrder() {
        checks.promise("promise 9, steps 1 and 2");
        LearningRepeater x = new LearningRepeater();
        x.join(0, 7);
        x.join(1, 6);
        x.frame(0, 1, 1, 0);
        x.frame(1, 2, 2, 0);
        x.frame(3, 9, 9, 0);
        x.frame(4, 3, 2, 0);
        x.frame(4, 4, 1, 0);
        x.frame(4, 5, 1, 3);
        x.forget(1);
        x.forget(2);
        checks.due("pass(1)", x.pass(1), 3);
        int[] sources = {5, 4, 3};
        for (int place = 1; place < 3; place++) {
            checks.due("queued(3, " + place + ", 0)", x.queued(3, place, 0), sources[place]);
        }
        checks.due("queued(3, 0, 0)", x.queued(3, 0, 0), 5);
        checks.due("where(3)", x.where(3), 6);
        checks.due("where(4)", x.where(4), 7);
        checks.due("where(5)", x.where(5), 7);
        checks.due("queued(0, 0, 0), as what comes in waits for the next second", x.queued(0, 0, 0), 5);
    }

    private static void passEndsQuarantines() {
        checks.promise("promise 9, step 3");
        LearningRepeater x = new LearningRepeater();
        x.set(2, 1);
        x.set(1, 2);
        x.frame(6, 9, 0, 0);
        x.frame(3, 1, 0, 0);
        x.frame(3, 1, 0, 0);
        checks.due("port(3, 2)", x.port(3, 2), 2);
        checks.due("port(3, 5)", x.port(3, 5), 1);
        checks.due("pass(1), as a port in quarantine does not send", x.pass(1), 13);
        checks.due("port(3, 2)", x.port(3, 2), 1);
        checks.due("port(3, 1)", x.port(3, 1), 0);
        checks.due("frame(3, 1, 0, 0)", x.frame(3, 1, 0, 0), 0);
        x.pass(1);
        checks.due("port(3, 2)", x.port(3, 2), 0);
        checks.due("port(3, 1)", x.port(3, 1), 1);
        checks.due("port(3, 3)", x.port(3, 3), 2);
        checks.due("pass(1), as it then sends its queue", x.pass(1), 1);
        checks.due("frame(3, 1, 0, 0)", x.frame(3, 1, 0, 0), 3);
        x.set(1, 1);
        x.frame(3, 1, 0, 0);
        x.pass(1);
        checks.due("port(3, 1)", x.port(3, 1), 1);
        checks.due("count(11)", x.count(11), 2);
    }

    private static void passAgesEntries() {
        checks.promise("promise 9, step 3");
        LearningRepeater x = new LearningRepeater();
        x.set(0, 3);
        x.frame(0, 1, 0, 0);
        x.pass(1);
        x.frame(1, 2, 0, 0);
        x.pass(1);
        checks.due("where(1) after 2 seconds", x.where(1), 0);
        checks.due("entry(0, 2)", x.entry(0, 2), 2);
        x.pass(1);
        checks.due("where(1) after 3 seconds", x.where(1), NONE);
        checks.due("where(2) after 2 seconds", x.where(2), 1);
        x.pass(1);
        checks.due("count(5)", x.count(5), 0);
    }

    private static void passIsOneAct() {
        checks.promise("promise 9, history");
        LearningRepeater x = new LearningRepeater();
        x.frame(0, 1, 0, 0);
        String before = Checks.told(x);
        x = new LearningRepeater();
        x.frame(0, 1, 0, 0);
        x.pass(10);
        checks.due("count(13)", x.count(13), 2);
        checks.due("undo()", x.undo(), 1);
        checks.same("what is told after undo()", Checks.told(x), before);
    }

    private static void wrongInputs() {
        checks.promise("promises 7 to 9, wrong inputs");
        for (int no : new int[] {-1, 8, Integer.MIN_VALUE, Integer.MAX_VALUE}) {
            checks.refused("frame(" + no + ", 1, 0, 0)", FramesTest::busy, x -> x.frame(no, 1, 0, 0), UNKNOWN);
            checks.refused("frame(" + no + ", 0, -1, 4)", FramesTest::busy, x -> x.frame(no, 0, -1, 4), UNKNOWN);
        }
        for (int no : new int[] {0, -1, 100, Integer.MIN_VALUE, Integer.MAX_VALUE}) {
            checks.refused("frame(0, " + no + ", 0, 0)", FramesTest::busy, x -> x.frame(0, no, 0, 0), BAD_VALUE);
            checks.refused("forget(" + no + ")", FramesTest::busy, x -> x.forget(no), BAD_VALUE);
        }
        for (int no : new int[] {-1, 100, Integer.MIN_VALUE, Integer.MAX_VALUE}) {
            checks.refused("frame(0, 1, " + no + ", 0)", FramesTest::busy, x -> x.frame(0, 1, no, 0), BAD_VALUE);
        }
        for (int no : new int[] {-1, 4, Integer.MIN_VALUE, Integer.MAX_VALUE}) {
            checks.refused("frame(0, 1, 0, " + no + ")", FramesTest::busy, x -> x.frame(0, 1, 0, no), BAD_VALUE);
        }
        checks.refused("forget(99)", FramesTest::busy, x -> x.forget(99), NONE);
        for (int no : new int[] {0, -1, 11, Integer.MIN_VALUE, Integer.MAX_VALUE}) {
            checks.refused("pass(" + no + ")", FramesTest::busy, x -> x.pass(no), BAD_VALUE);
        }
        LearningRepeater x = new LearningRepeater();
        checks.due("frame(7, 99, 99, 3)", x.frame(7, 99, 99, 3), 1);
        checks.due("frame(0, 1, 0, 0)", x.frame(0, 1, 0, 0), 3);
        checks.due("pass(10)", x.pass(10), 7);
    }

    private static void busy(LearningRepeater x) {
        x.join(0, 1);
        x.frame(2, 1, 0, 2);
        x.frame(3, 2, 1, 0);
        x.pass(1);
    }
}
