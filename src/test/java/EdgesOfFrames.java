/** The sentences of FRAMES, TABLE, A FRAME COMES IN and promises 7 and 8. */
final class EdgesOfFrames {
    private static final String IN = "A FRAME COMES IN";
    /** 1 has moved twice, and is at port 2. */
    private static final String MOVED_TWICE = "frame(0, 1, 1, 0)=1 frame(1, 1, 1, 0)=1 frame(2, 1, 1, 0)=1 ";

    private final Edges e;

    EdgesOfFrames(Edges edges) {
        e = edges;
    }

    void all() {
        frames();
        numbers();
        table();
        order();
        turnedAway();
        moves();
        latestSeconds();
        removedBetween();
        cutForMoves();
        sameAndNewEntries();
        fullTable();
        knownDestinations();
        floods();
        storms();
        waysOut();
        fullQueues();
        quarantines();
        frame();
        frameWithWrongInputs();
        forget();
    }

    /** Frames of these addresses that are filtered at the port, as each is to its own source. */
    private static Run fill(Run run, int port, int first, int last) {
        for (int address = first; address <= last; address++) {
            run.calls("frame(%d, %d, %d, 0)=1", port, address, address);
        }
        return run;
    }

    private void frames() {
        e.sentence("FRAMES", "A frame has a source (an address, 1 to 99), a destination (an address, or 0 for all)"
                + " and a priority (0 to 3)");
        for (String no : new String[] {"MIN", "-1", "0", "100", "MAX"}) {
            e.run("frame(0, %1$s, 0, 0)=BAD_VALUE wouldGo(0, %1$s, 0)=BAD_VALUE where(%1$s)=BAD_VALUE", no);
        }
        for (int source : new int[] {1, 2, 98, 99}) {
            e.run("frame(0, %1$d, 0, 0)=3 queued(1, 0, 0)=%1$d where(%1$d)=0 wouldGo(0, %1$d, 0)=254", source);
        }
        for (String no : new String[] {"MIN", "-1", "100", "MAX"}) {
            e.run("frame(0, 1, %1$s, 0)=BAD_VALUE wouldGo(0, 1, %1$s)=BAD_VALUE", no);
        }
        for (int destination : new int[] {0, 1, 2, 98, 99}) {
            e.run("frame(0, 50, %1$d, 0)=3 queued(1, 0, 1)=%1$d wouldGo(0, 50, %1$d)=254", destination);
        }
        for (String no : new String[] {"MIN", "-1", "4", "MAX"}) {
            e.run("frame(0, 1, 0, %1$s)=BAD_VALUE", no);
        }
        for (int priority = 0; priority <= 3; priority++) {
            e.run("frame(0, 1, 0, %1$d)=3 queued(1, 0, 2)=%1$d", priority);
        }
    }

    private void numbers() {
        e.sentence("FRAMES", "Each frame that is put into a queue gets a number, from 0 on,"
                + " in the order in which this happens");
        e.run("count(12)=0 frame(0, 1, 2, 0)=3 queued(1, 0, 3)=0 queued(2, 0, 3)=1 queued(3, 0, 3)=2 queued(4, 0, 3)=3"
                + " queued(5, 0, 3)=4 queued(6, 0, 3)=5 queued(7, 0, 3)=6 count(12)=7 frame(0, 3, 1, 0)=1 count(12)=7"
                + " frame(1, 2, 1, 3)=2 queued(0, 0, 3)=7 count(12)=8 pass(1)=8 count(12)=8 frame(1, 2, 1, 0)=2"
                + " queued(0, 0, 3)=8 count(12)=9");
        e.run("frame(0, 1, 1, 0)=1 11*frame(1, 2, 1, 0)=2 count(12)=11 frame(1, 2, 1, 0)=2 count(12)=12"
                + " frame(1, 2, 1, 0)=2 count(12)=12 frame(1, 2, 0, 0)=3 count(12)=18 queued(2, 0, 3)=12"
                + " queued(7, 0, 3)=17");
        e.run("join(0, 7)=1 frame(0, 1, 1, 0)=1 frame(3, 3, 1, 0)=2 queued(0, 0, 3)=0 pass(1)=1 queued(0, 0, 3)=1"
                + " count(12)=2 setPort(0, false)=7 count(12)=2 setPort(0, true)=8 frame(3, 4, 1, 0)=2"
                + " queued(0, 0, 3)=2");
    }

    private void table() {
        e.sentence("TABLE", "The table has at most 20 entries:");
        fill(e.run(""), 0, 1, 19).calls("count(5)=19 where(1)=0 entry(18, 0)=19 entry(19, 0)=NONE");
        fill(e.run(""), 0, 1, 20).calls("count(5)=20 where(1)=0 entry(19, 0)=20 entry(20, 0)=NONE");
        fill(e.run(""), 0, 1, 21).calls("count(5)=20 where(1)=NONE where(2)=0 where(21)=0 entry(19, 0)=21"
                + " entry(20, 0)=NONE");
        fill(e.run(""), 0, 1, 99).calls("count(5)=20 where(79)=NONE where(80)=0 where(99)=0 port(0, 6)=20");
        e.sentence("TABLE", "an address, a port and a time");
        e.run("pass(3) frame(6, 99, 99, 0)=1 pass(2) entry(0, 0)=99 entry(0, 1)=6 entry(0, 2)=2");
        e.sentence("TABLE", "There is at most one entry for an address");
        e.run("frame(0, 1, 1, 0)=1 frame(0, 1, 1, 0)=1 count(5)=1 frame(3, 1, 1, 0)=1 count(5)=1 entry(0, 1)=3"
                + " entry(1, 0)=NONE port(0, 6)=0 port(3, 6)=1 forget(1)=3 count(5)=0 where(1)=NONE forget(1)=NONE");
    }

    private void order() {
        e.sentence(IN, "When a frame comes in at a port, the following happens in this order:");
        // Step 1 before step 2.
        e.run(MOVED_TWICE + "setPort(3, false)=7 frame(3, 1, 1, 0)=0 where(1)=2 entry(0, 3)=2 count(11)=0"
                + " port(3, 3)=0");
        // Step 2 before step 4: for moves, though it would be filtered, come to a dead end, go out of one port.
        e.run(MOVED_TWICE + "frame(3, 1, 1, 0)=4");
        e.run(MOVED_TWICE + "frame(5, 5, 5, 0)=1 setPort(5, false)=7 frame(3, 1, 5, 0)=4 account(3, 6)=0");
        e.run(MOVED_TWICE + "frame(5, 5, 5, 0)=1 frame(3, 1, 5, 0)=4 port(5, 5)=0");
        // Step 2 before step 5: for moves and not for a storm.
        e.run("set(2, 1)=10 frame(3, 9, 0, 0)=3 " + MOVED_TWICE + "frame(3, 1, 0, 0)=4 port(3, 3)=1 count(11)=1");
        // Step 3 before step 4: the new entry is known, the removed one is not.
        e.run("frame(0, 1, 1, 0)=1");
        fill(e.run(""), 0, 1, 20).calls("frame(3, 50, 1, 0)=3");
        // Step 3 before step 5: for a frame that is cut for a storm an entry is removed, too.
        fill(e.run("set(2, 1)=10"), 0, 1, 19)
                .calls("frame(3, 50, 0, 0)=3 count(5)=20 frame(3, 51, 0, 0)=5 count(5)=18 where(1)=NONE where(2)=0");
        // Step 4 before step 5: too many floods are no matter for a frame whose destination is known.
        e.run("set(2, 1)=10 frame(0, 1, 1, 0)=1 frame(3, 9, 0, 0)=3 frame(3, 9, 1, 0)=2 frame(3, 9, 9, 0)=1"
                + " setPort(0, false)=7 frame(3, 9, 1, 0)=6 frame(3, 9, 2, 0)=5");
    }

    private void turnedAway() {
        e.sentence(IN, "If the port is not open, the frame is turned away");
        e.run("frame(3, 1, 1, 0)=1 setPort(3, false)=7 frame(3, 1, 1, 0)=0 frame(3, 2, 0, 0)=0 where(2)=NONE"
                + " account(3, 0)=3 account(3, 1)=2 account(3, 2)=1 account(3, 4)=0 count(12)=0 port(3, 7)=0"
                + " setPort(3, true)=8 frame(3, 2, 2, 0)=1 account(3, 1)=2");
        e.run("frame(3, 1, 1, 0)=1 pass(2)=0 setPort(3, false)=7 frame(3, 1, 1, 0)=0 entry(0, 2)=2");
        e.run("frame(0, 1, 1, 0)=1 setPort(3, false)=7 frame(3, 1, 1, 0)=0 where(1)=0 entry(0, 3)=0");
        fill(e.run("setPort(3, false)=7"), 0, 1, 20).calls("frame(3, 50, 50, 0)=0 where(50)=NONE where(1)=0");
        e.run("set(2, 1)=10 frame(3, 1, 0, 0)=3 frame(3, 1, 0, 0)=5 frame(3, 1, 0, 0)=0 frame(3, 2, 2, 0)=0"
                + " where(2)=NONE count(11)=1 account(3, 5)=1 account(3, 1)=2 port(3, 7)=1 release(3)=30"
                + " frame(3, 2, 2, 0)=1");
    }

    private void moves() {
        e.sentence(IN, "If there is an entry for its source with another port, this is a move of the source:");
        e.run("frame(0, 1, 1, 0)=1 entry(0, 3)=0 frame(0, 1, 1, 0)=1 entry(0, 3)=0 frame(1, 1, 1, 0)=1 entry(0, 3)=1"
                + " frame(1, 1, 1, 0)=1 entry(0, 3)=1 frame(0, 1, 1, 0)=1 entry(0, 3)=2");
        e.run("frame(0, 1, 1, 0)=1 forget(1)=0 frame(1, 1, 1, 0)=1 entry(0, 3)=0");
        int[] addresses = {1, 2, 3, 10, 11, 49, 50, 51, 89, 90, 97, 98, 99};
        for (int moved : addresses) {
            for (int second = 0; second <= 10; second += 5) {
                Run run = e.run("").seconds(second).calls("frame(3, %1$d, %1$d, 0)=1 frame(4, %1$d, %1$d, 0)=1", moved);
                for (int address : addresses) {
                    run.calls("frame(%1$d, %2$d, %2$d, 0)=1", address == moved ? 4 : 0, address);
                }
                for (int passed = 0; passed <= 11; passed++) {
                    for (int entry = 0; entry < addresses.length; entry++) {
                        run.calls("entry(%d, 3)=%d", entry, addresses[entry] == moved && passed < 10 ? 1 : 0);
                    }
                    run.calls("pass(1)=0");
                }
            }
        }
        e.sentence(IN, "the port of the entry becomes this one, its time the present one");
        e.run("frame(0, 1, 1, 0)=1 pass(5)=0 entry(0, 2)=5 frame(7, 1, 1, 0)=1 where(1)=7 entry(0, 1)=7 entry(0, 2)=0"
                + " port(0, 6)=0 port(7, 6)=1");
        e.run("frame(7, 1, 1, 0)=1").seconds(59).calls("frame(0, 1, 1, 0)=1 pass(1)=0 where(1)=0").seconds(58)
                .calls("where(1)=0 pass(1)=0 where(1)=NONE");
        fill(e.run(""), 0, 1, 20).calls("pass(1)=0 frame(1, 20, 20, 0)=1 count(5)=20 where(1)=0 where(20)=1");
    }

    private void latestSeconds() {
        e.sentence(IN, "Then, if the source has moved at least 3 times in the latest 10 seconds"
                + " (the present second is the last one of these;");
        e.run(MOVED_TWICE + "port(1, 1)=1 port(2, 1)=1 count(11)=0 entry(0, 3)=2 frame(3, 1, 1, 0)=4 port(3, 1)=0"
                + " count(11)=1 frame(4, 1, 1, 0)=1 entry(0, 3)=3 frame(5, 1, 1, 0)=4 port(5, 3)=1 frame(6, 1, 1, 0)=1"
                + " entry(0, 3)=4");
        // Only a frame that is a move itself is cut for moves.
        e.run(MOVED_TWICE + "frame(3, 1, 1, 0)=4 frame(4, 1, 1, 0)=1 frame(4, 1, 1, 0)=1 frame(4, 1, 2, 0)=3"
                + " port(4, 1)=1 entry(0, 3)=3 count(11)=1");
        for (int start = 0; start <= 11; start++) {
            for (int gap = 0; gap <= 11; gap++) {
                e.run("").seconds(start).calls(MOVED_TWICE).seconds(gap).calls("entry(0, 3)=%d", gap < 10 ? 2 : 0)
                        .calls("frame(3, 1, 1, 0)=%d", gap < 10 ? 4 : 1);
                e.run("").seconds(start).calls("frame(0, 1, 1, 0)=1 frame(1, 1, 1, 0)=1").seconds(gap)
                        .calls("frame(2, 1, 1, 0)=1 frame(3, 1, 1, 0)=%d", gap < 10 ? 4 : 1);
            }
        }
        e.run("frame(0, 1, 1, 0)=1 frame(1, 1, 1, 0)=1 pass(1)=0 frame(2, 1, 1, 0)=1 pass(8)=0 entry(0, 3)=2"
                + " frame(3, 1, 1, 0)=4");
        e.run("frame(0, 1, 1, 0)=1 frame(1, 1, 1, 0)=1 pass(1)=0 frame(2, 1, 1, 0)=1 pass(9)=0 entry(0, 3)=1"
                + " frame(3, 1, 1, 0)=1 entry(0, 3)=2 pass(1)=0 entry(0, 3)=1");
        for (int address : new int[] {1, 2, 98, 99}) {
            String moved = String.format("frame(0, %1$d, %1$d, 0)=1 frame(1, %1$d, %1$d, 0)=1"
                    + " frame(2, %1$d, %1$d, 0)=1",
                    address);
            e.run(moved).seconds(9).calls("frame(3, %1$d, %1$d, 0)=4", address);
            e.run(moved).seconds(10).calls("frame(3, %1$d, %1$d, 0)=1", address);
        }
        e.sentence(IN, "the move of this frame counts;");
        e.run("frame(0, 1, 1, 0)=1 frame(1, 1, 1, 0)=1 frame(2, 1, 0, 0)=3 frame(3, 1, 0, 0)=4");
    }

    private void removedBetween() {
        e.sentence(IN, "moves are counted for an address, be its entry removed between or not)");
        e.run(MOVED_TWICE + "forget(1)=2 frame(3, 1, 1, 0)=1 entry(0, 3)=2 frame(4, 1, 1, 0)=4");
        e.run("frame(0, 1, 1, 0)=1 frame(1, 1, 1, 0)=1 forget(1)=1 frame(3, 1, 1, 0)=1 entry(0, 3)=1"
                + " frame(4, 1, 1, 0)=1 entry(0, 3)=2 frame(5, 1, 1, 0)=4");
        e.run("set(0, 1)=60 " + MOVED_TWICE + "pass(1)=0 where(1)=NONE frame(3, 1, 1, 0)=1 entry(0, 3)=2"
                + " frame(4, 1, 1, 0)=4");
        fill(e.run(MOVED_TWICE), 0, 2, 21).calls("where(1)=NONE frame(3, 1, 1, 0)=1 entry(0, 3)=2 frame(4, 1, 1, 0)=4");
        e.run("set(2, 1)=10 " + MOVED_TWICE + "frame(2, 9, 0, 0)=3 frame(2, 9, 0, 0)=5 where(1)=NONE"
                + " frame(3, 1, 1, 0)=1 entry(0, 3)=2 frame(4, 1, 1, 0)=4");
    }

    private void cutForMoves() {
        e.sentence(IN, "the port is put in quarantine for moves, and the frame is cut");
        e.run("frame(0, 1, 1, 0)=1 frame(7, 2, 2, 0)=1 frame(1, 1, 2, 0)=2 frame(2, 1, 2, 0)=2 frame(3, 1, 2, 0)=4"
                + " port(3, 1)=0 port(3, 2)=30 port(3, 3)=1 port(2, 1)=1 port(2, 2)=0 port(2, 3)=0 account(3, 5)=1"
                + " account(3, 3)=0 account(3, 0)=1 port(7, 5)=2 count(12)=2 port(3, 7)=0 where(1)=NONE where(2)=7"
                + " count(7)=1 count(11)=1");
        e.run(MOVED_TWICE + "frame(3, 1, 0, 0)=4 account(3, 4)=0 port(3, 7)=0 count(12)=0 port(3, 3)=1");
    }

    private void sameAndNewEntries() {
        e.sentence(IN, "If there is an entry for its source with this port, its time becomes the present one");
        e.run("frame(0, 1, 1, 0)=1 pass(3)=0 entry(0, 2)=3 frame(0, 1, 0, 0)=3 entry(0, 2)=0 where(1)=0 count(5)=1");
        e.run("frame(0, 1, 1, 0)=1").seconds(59).calls("frame(0, 1, 1, 0)=1").seconds(59)
                .calls("where(1)=0 pass(1)=0 where(1)=NONE");
        e.sentence(IN, "If there is no entry for it, there is a new one;");
        e.run("pass(4) where(1)=NONE frame(5, 1, 0, 0)=3 where(1)=5 entry(0, 2)=0 count(5)=1 frame(5, 2, 1, 0)=1"
                + " where(2)=5 setPort(5, false)=7 frame(6, 3, 1, 0)=6 where(3)=6 count(5)=3");
    }

    private void fullTable() {
        e.sentence(IN, "if there are 20 already, the one with the least time"
                + " (of several the one with the least address) is removed for it;");
        fill(e.run(""), 0, 1, 19).calls("frame(0, 50, 50, 0)=1 count(5)=20 where(1)=0 where(50)=0");
        fill(e.run(""), 0, 1, 20).calls("frame(0, 50, 50, 0)=1 count(5)=20 where(1)=NONE where(2)=0 where(50)=0"
                + " frame(0, 51, 51, 0)=1 count(5)=20 where(2)=NONE where(3)=0");
        fill(e.run("frame(0, 99, 99, 0)=1 pass(1)=0"), 0, 1, 19)
                .calls("frame(0, 50, 50, 0)=1 where(99)=NONE where(1)=0 frame(0, 51, 51, 0)=1 where(1)=NONE"
                        + " where(2)=0");
        fill(e.run("frame(0, 40, 40, 0)=1 frame(0, 30, 30, 0)=1 pass(1)=0"), 0, 1, 18)
                .calls("frame(0, 50, 50, 0)=1 where(30)=NONE where(40)=0 frame(0, 51, 51, 0)=1 where(40)=NONE"
                        + " where(1)=0");
        fill(e.run("frame(0, 98, 98, 0)=1 frame(0, 99, 99, 0)=1 pass(1)=0"), 0, 1, 18)
                .calls("frame(0, 98, 98, 0)=1 frame(0, 50, 50, 0)=1 where(99)=NONE where(98)=0 where(1)=0"
                        + " frame(0, 51, 51, 0)=1 where(1)=NONE where(98)=0");
        fill(e.run(""), 0, 2, 21).calls("frame(0, 1, 1, 0)=1 where(1)=0 where(2)=NONE where(3)=0");
        fill(e.run(""), 0, 1, 20).calls("frame(0, 20, 20, 0)=1 count(5)=20 where(1)=0");
        fill(e.run(""), 0, 1, 20).calls("forget(7)=0 frame(0, 50, 50, 0)=1 count(5)=20 where(1)=0");
        e.sentence(IN, "it may be that for the destination");
        fill(e.run(""), 0, 1, 20).calls("frame(3, 50, 1, 0)=3 where(1)=NONE count(12)=7");
        fill(e.run(""), 0, 1, 20).calls("frame(3, 50, 2, 0)=2 where(1)=NONE count(12)=1");
        fill(e.run(""), 0, 1, 20).calls("frame(0, 50, 1, 0)=3");
        fill(e.run(""), 0, 1, 20).calls("frame(0, 50, 2, 0)=1");
        fill(e.run(""), 0, 1, 19).calls("frame(3, 50, 1, 0)=2");
    }

    private void knownDestinations() {
        e.sentence(IN, "If there is an entry for its destination:");
        e.run("frame(0, 1, 1, 0)=1 frame(1, 3, 1, 0)=2 frame(1, 3, 2, 0)=3 frame(1, 3, 0, 0)=3 forget(1)=0"
                + " frame(1, 3, 1, 0)=3");
        e.sentence(IN, "if its port is this one, the frame is filtered;");
        e.run("frame(0, 1, 1, 0)=1 frame(0, 2, 1, 0)=1 account(0, 2)=2 count(12)=0 port(0, 7)=0 frame(1, 2, 1, 0)=2"
                + " frame(1, 1, 2, 0)=1 frame(0, 3, 2, 0)=2");
        e.sentence(IN, "if that port is open, the frame goes out of that one port;");
        for (int port = 0; port < 8; port++) {
            e.run("frame(%1$d, 1, 1, 0)=1 frame(%2$d, 2, 1, 3)=2 port(%1$d, 5)=1 count(9)=1 account(%2$d, 3)=1"
                    + " queued(%1$d, 0, 0)=2 queued(%1$d, 0, 1)=1 queued(%1$d, 0, 2)=3 queued(%1$d, 0, 3)=0"
                    + " port(%2$d, 7)=0", port, (port + 1) % 8);
        }
        e.sentence(IN, "otherwise it comes to a dead end");
        e.run("frame(0, 1, 1, 0)=1 setPort(0, false)=7 frame(1, 2, 1, 0)=6 where(2)=1 account(1, 6)=1 account(1, 0)=1"
                + " count(12)=0 count(9)=0 port(1, 7)=0 account(0, 8)=0 setPort(0, true)=8 frame(1, 2, 1, 0)=2"
                + " account(1, 6)=1");
    }

    private void floods() {
        e.sentence(IN, "If there is no entry for its destination, or the destination is 0, the frame is a flood");
        e.run("frame(0, 1, 2, 0)=3 port(0, 7)=1 account(0, 4)=1 frame(0, 1, 0, 0)=3 port(0, 7)=2 frame(3, 2, 2, 0)=1"
                + " frame(0, 1, 2, 0)=2 port(0, 7)=2 frame(0, 1, 0, 0)=3 port(0, 7)=3 forget(2)=3 frame(0, 1, 2, 0)=3"
                + " port(0, 7)=4 account(0, 4)=4");
    }

    private void storms() {
        e.sentence(IN, "If as many floods as the setting tells, or more, have come in at this port in the present"
                + " second already, the port is put in quarantine for a storm, and the frame is cut");
        e.run("9*frame(0, 1, 0, 0)=3 port(0, 1)=1 frame(0, 1, 0, 0)=3 port(0, 1)=1 port(0, 3)=0 count(11)=0"
                + " account(0, 4)=10 count(12)=70 frame(0, 1, 0, 0)=5 port(0, 1)=0 port(0, 2)=30 port(0, 3)=2"
                + " count(11)=1 account(0, 4)=10 account(0, 5)=1 account(0, 0)=11 count(12)=70 frame(0, 1, 0, 0)=0");
        e.run("set(2, 3)=10 3*frame(0, 1, 0, 0)=3 set(2, 2)=3 frame(0, 1, 0, 0)=5");
        e.run("set(2, 3)=10 2*frame(0, 1, 0, 0)=3 set(2, 2)=3 frame(0, 1, 0, 0)=5");
        e.run("set(2, 3)=10 frame(0, 1, 0, 0)=3 set(2, 2)=3 frame(0, 1, 0, 0)=3 frame(0, 1, 0, 0)=5");
        e.run("set(2, 1)=10 frame(0, 1, 0, 0)=3 frame(1, 2, 0, 0)=3 port(0, 7)=1 port(1, 7)=1 frame(1, 2, 0, 0)=5"
                + " port(0, 1)=1 frame(0, 1, 0, 0)=5");
        e.run("set(2, 1)=10 frame(0, 1, 0, 0)=3 pass(1)=7 frame(0, 1, 0, 0)=3 frame(0, 1, 0, 0)=5");
        e.run("set(2, 1)=10 frame(0, 1, 1, 0)=1 frame(5, 5, 5, 0)=1 3*frame(0, 1, 5, 0)=2 port(0, 7)=0"
                + " frame(0, 1, 0, 0)=3 frame(0, 1, 5, 0)=2 frame(0, 1, 1, 0)=1 frame(0, 1, 9, 0)=5");
        e.sentence(IN, "(and does not count as a flood)");
        e.run("set(2, 2)=10 2*frame(0, 1, 0, 0)=3 frame(0, 1, 0, 0)=5 port(0, 7)=2 account(0, 4)=2 set(2, 3)=2"
                + " release(0)=30 frame(0, 1, 0, 0)=3 port(0, 7)=3 frame(0, 1, 0, 0)=5 port(0, 7)=3");
    }

    private void waysOut() {
        e.sentence(IN, "Otherwise it goes out of all other open ports (it can be none)");
        for (int downs = 0; downs < 256; downs += 2) {
            Run run = e.run("");
            for (int port = 1; port < 8; port++) {
                run.calls((downs >> port & 1) == 1 ? "setPort(%d, false)" : "port(%d, 0)=1", port);
            }
            int open = 7 - Integer.bitCount(downs);
            run.calls("wouldGo(0, 1, 0)=%d frame(0, 1, 0, 0)=3 count(9)=%d count(12)=%d port(0, 5)=0 port(0, 7)=1"
                    + " account(0, 4)=1", 254 - downs, open, open);
            for (int port = 1; port < 8; port++) {
                run.calls("port(%d, 5)=%d", port, 1 - (downs >> port & 1));
            }
        }
        e.run("set(2, 1)=10 frame(3, 1, 0, 0)=3 frame(3, 1, 0, 0)=5 wouldGo(0, 2, 0)=246 frame(0, 2, 0, 0)=3"
                + " port(3, 5)=0 port(2, 5)=2 release(3)=30 wouldGo(1, 2, 0)=253");
        for (int port = 0; port < 8; port++) {
            e.run("frame(%1$d, 1, 0, 0)=3 port(%1$d, 5)=0 count(9)=7", port);
        }
        Run run = e.run("set(2, 2)=10");
        for (int port = 1; port < 8; port++) {
            run.calls("setPort(%d, false)", port);
        }
        run.calls("frame(0, 1, 0, 0)=3 frame(0, 1, 0, 0)=3 frame(0, 1, 0, 0)=5 count(12)=0");
    }

    private void fullQueues() {
        e.sentence(IN, "When a frame goes out of a port, it is put into its queue;");
        e.run("frame(0, 1, 1, 0)=1 frame(1, 2, 1, 1)=2 port(0, 5)=1 queued(0, 0, 0)=2 queued(0, 0, 1)=1"
                + " queued(0, 0, 2)=1 account(0, 7)=1 frame(3, 9, 0, 2)=3 port(0, 5)=2 queued(0, 0, 0)=9"
                + " queued(0, 0, 1)=0 queued(0, 1, 0)=2 account(0, 7)=2 port(7, 5)=1 account(7, 7)=1 account(3, 7)=0");
        e.sentence(IN, "if this is full, the frame is dropped there");
        e.run("frame(0, 1, 1, 0)=1 11*frame(1, 2, 1, 0)=2 frame(1, 2, 0, 0)=3 port(0, 5)=12 account(0, 8)=0"
                + " port(2, 5)=1 frame(1, 3, 0, 0)=3 port(0, 5)=12 account(0, 8)=1 account(0, 7)=12 port(2, 5)=2"
                + " account(2, 8)=0 queued(2, 1, 3)=18 queued(7, 1, 3)=23 count(12)=24");
        e.run("frame(0, 1, 1, 0)=1 12*frame(1, 2, 1, 0)=2 frame(1, 3, 1, 3)=2 queued(0, 0, 0)=2 queued(0, 11, 0)=2"
                + " account(1, 3)=13 account(0, 8)=1 pass(1)=4 frame(1, 3, 1, 3)=2 queued(0, 0, 0)=3 account(0, 8)=1");
    }

    private void quarantines() {
        e.sentence(IN, "When a port is put in quarantine, this lasts until as many seconds have passed as the setting"
                + " tells (a second that is just passing counts);");
        for (int seconds = 1; seconds <= 12; seconds++) {
            String set = "set(1, " + seconds + ")=30 set(2, 1)=10 ";
            e.run(set + "frame(3, 1, 0, 0)=3 frame(3, 1, 0, 0)=5 port(3, 2)=%d", seconds).seconds(seconds - 1)
                    .calls("port(3, 2)=1 frame(3, 1, 1, 0)=0 pass(1) port(3, 2)=0 frame(3, 1, 1, 0)=1");
            e.run(set + MOVED_TWICE + "frame(3, 1, 1, 0)=4 port(3, 2)=%d", seconds).seconds(seconds - 1)
                    .calls("port(3, 2)=1 frame(3, 1, 1, 0)=0 pass(1) port(3, 2)=0 frame(3, 1, 1, 0)=1");
            e.run(set + "join(0, 1)=1 frame(0, 1, 1, 0)=1 2*frame(2, 9, 1, 0)=2 forget(1)=0 pass(1)=2 port(1, 3)=2"
                    + " count(11)=1 port(1, 2)=%d port(1, 1)=%d", seconds - 1, seconds == 1 ? 1 : 0)
                    .calls("part(0)=1").seconds(seconds - 1).calls("port(1, 2)=0 port(1, 1)=1");
        }
        e.sentence(IN, "all entries with this port are removed (that of the source, too)");
        e.run("set(2, 1)=10 frame(3, 1, 1, 0)=1 frame(3, 2, 2, 0)=1 frame(4, 5, 5, 0)=1 frame(3, 1, 0, 0)=3"
                + " frame(3, 6, 0, 0)=5 where(1)=NONE where(2)=NONE where(6)=NONE where(5)=4 count(5)=1 port(3, 6)=0"
                + " entry(0, 0)=5 frame(4, 5, 1, 0)=3 release(3)=30 where(1)=NONE");
        e.run("set(2, 1)=10 frame(3, 1, 0, 0)=3 frame(3, 1, 0, 0)=5 where(1)=NONE count(5)=0");
        fill(e.run("set(2, 1)=10 frame(3, 99, 0, 0)=3"), 3, 1, 19).calls("port(3, 6)=20 frame(3, 99, 0, 0)=5"
                + " count(5)=0");
        e.run("frame(3, 7, 7, 0)=1 frame(4, 8, 8, 0)=1 " + MOVED_TWICE + "frame(3, 1, 1, 0)=4 where(1)=NONE"
                + " where(7)=NONE where(8)=4 count(5)=1 port(3, 6)=0 port(2, 6)=0");
        e.sentence(IN, "Its queue stays");
        e.run("set(2, 1)=10 set(1, 2)=30 frame(3, 1, 1, 0)=1 5*frame(4, 2, 1, 0)=2 frame(3, 1, 0, 0)=3 port(3, 5)=5"
                + " frame(3, 1, 0, 0)=5 port(3, 5)=5 queued(3, 4, 3)=4 account(3, 8)=0 pass(1)=7 port(3, 5)=5 pass(1)=0"
                + " port(3, 5)=5 port(3, 1)=1 pass(1)=4 port(3, 5)=1 account(3, 9)=4");
        e.run("frame(3, 9, 9, 0)=1 12*frame(4, 2, 9, 1)=2 " + MOVED_TWICE + "frame(3, 1, 1, 0)=4 port(3, 5)=12");
    }

    private void frame() {
        e.sentence("Promise 7", "Lets a frame come in");
        e.run("frame(2, 1, 0, 0)=3 account(2, 0)=1 count(10)=1 where(1)=2");
        e.sentence("Promise 7", "0 it is turned away, 1 filtered, 2 it goes out of one port, 3 it is a flood,"
                + " 4 it is cut for moves, 5 it is cut for a storm, 6 it comes to a dead end");
        e.sentence("Promise 7", "Returns what becomes of it:");
        String known = "set(2, 1)=10 frame(6, 6, 6, 0)=1 frame(7, 7, 7, 0)=1 setPort(7, false)=7 frame(3, 3, 0, 0)=3 ";
        String[] calls = {"frame(7, 9, 0, 0)", "frame(0, 1, 1, 0)", "frame(0, 1, 6, 0)", "frame(0, 1, 9, 0)",
            "frame(5, 1, 0, 0)", "frame(3, 1, 0, 0)", "frame(0, 1, 7, 0)"};
        for (int fate = 0; fate < calls.length; fate++) {
            String before = known + (fate == 4 ? MOVED_TWICE : "");
            int port = calls[fate].charAt(6) - '0';
            int was = port == 3 ? 1 : fate == 0 ? 1 : 0;
            e.run(before + calls[fate] + "=%d account(%d, 0)=%d", fate, port, was + 1);
        }
        e.sentence("Promise 7", "This is an act");
        for (int fate = 0; fate < calls.length; fate++) {
            e.act(known + (fate == 4 ? MOVED_TWICE : ""), calls[fate]);
        }
        e.act("", "frame(0, 1, 0, 0)");
        e.act(Edges.BUSY, "frame(2, 9, 8, 1)");
        e.run("setPort(0, false)=7 count(13)=1 frame(0, 1, 0, 0)=0 count(13)=2 undo()=1 account(0, 0)=0");
    }

    private void frameWithWrongInputs() {
        e.sentence("Promise 7", "`port`: 0 to 7");
        e.sentence("Promise 7", "UNKNOWN;");
        e.run("frame(0, 1, 1, 0)=1 frame(7, 2, 2, 0)=1");
        for (String no : Edges.NO_PORTS) {
            e.refused("frame(%s, 1, 1, 0)=UNKNOWN", no);
            e.refused("frame(%s, 0, 0, 0)=UNKNOWN", no);
            e.refused("frame(%s, 100, 100, 4)=UNKNOWN", no);
        }
        e.sentence("Promise 7", "BAD_VALUE");
        e.sentence("Promise 7", "`source`: 1 to 99");
        for (String no : new String[] {"MIN", "-1", "0", "100", "MAX"}) {
            e.refused("frame(2, %s, 9, 0)=BAD_VALUE", no);
            e.refused("frame(7, %s, 9, 0)=BAD_VALUE", no);
        }
        e.run("frame(0, 1, 0, 0)=3 frame(0, 99, 0, 0)=3 where(1)=0 where(99)=0");
        e.sentence("Promise 7", "`destination`: 0 to 99");
        for (String no : new String[] {"MIN", "-1", "100", "MAX"}) {
            e.refused("frame(2, 9, %s, 0)=BAD_VALUE", no);
            e.refused("frame(7, 9, %s, 0)=BAD_VALUE", no);
        }
        e.run("frame(0, 1, 0, 0)=3 frame(1, 99, 99, 0)=1 frame(0, 1, 99, 0)=2");
        e.sentence("Promise 7", "`priority`: 0 to 3");
        for (String no : new String[] {"MIN", "-1", "4", "MAX"}) {
            e.refused("frame(2, 9, 0, %s)=BAD_VALUE", no);
            e.refused("frame(7, 9, 0, %s)=BAD_VALUE", no);
        }
        e.run("frame(0, 1, 0, 0)=3 frame(0, 1, 0, 3)=3 queued(7, 0, 2)=3 queued(7, 1, 2)=0");
    }

    private void forget() {
        e.sentence("Promise 8", "`address`: 1 to 99");
        e.sentence("Promise 8", "BAD_VALUE;");
        for (String no : new String[] {"MIN", "-1", "0", "100", "MAX"}) {
            e.refused("forget(%s)=BAD_VALUE", no);
        }
        e.run("frame(0, 1, 1, 0)=1 frame(7, 99, 99, 0)=1 forget(1)=0 forget(99)=7 count(5)=0");
        e.sentence("Promise 8", "Removes the entry for an address");
        e.run("frame(0, 1, 1, 0)=1 frame(0, 2, 2, 0)=1 frame(0, 3, 3, 0)=1 forget(2)=0 where(1)=0 where(2)=NONE"
                + " where(3)=0 count(5)=2 entry(1, 0)=3 entry(2, 0)=NONE port(0, 6)=2 frame(1, 9, 2, 0)=3"
                + " frame(1, 9, 3, 0)=2");
        e.sentence("Promise 8", "This is an act");
        e.act("frame(5, 99, 99, 0)=1", "forget(99)");
        e.act(Edges.BUSY, "forget(9)");
        e.sentence("Promise 8", "Returns its port");
        for (int port = 0; port < 8; port++) {
            e.run("frame(%1$d, 50, 50, 0)=1 forget(50)=%1$d", port);
        }
        e.run("frame(3, 50, 50, 0)=1 setPort(3, false)=7 forget(50)=3");
        e.sentence("Promise 8", "NONE if there is none");
        e.run("forget(1)=NONE forget(99)=NONE frame(0, 50, 50, 0)=1 forget(49)=NONE forget(51)=NONE forget(50)=0"
                + " forget(50)=NONE");
        e.refused("forget(5)=NONE");
        e.refused("forget(99)=NONE");
    }
}
