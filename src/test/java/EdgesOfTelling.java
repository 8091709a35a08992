/** The sentences of promises 16 to 23. */
final class EdgesOfTelling {
    private static final String MOVED_TWICE = "frame(0, 1, 1, 0)=1 frame(1, 1, 1, 0)=1 frame(2, 1, 1, 0)=1 ";

    private final Edges e;

    EdgesOfTelling(Edges edges) {
        e = edges;
    }

    void all() {
        port();
        portAndQuarantines();
        account();
        accountOfQueues();
        entry();
        where();
        queued();
        wouldGo();
        wouldGoByAllSteps();
        loops();
        count();
    }

    private void port() {
        String promise = "Promise 16";
        e.sentence(promise, "`port`: 0 to 7");
        e.sentence(promise, "UNKNOWN;");
        for (String no : Edges.NO_PORTS) {
            for (int what = -1; what <= 8; what++) {
                e.run("port(%s, %d)=UNKNOWN", no, what);
            }
        }
        e.sentence(promise, "BAD_VALUE");
        for (int port = 0; port < 8; port++) {
            e.run("port(%1$d, -1)=BAD_VALUE port(%1$d, 0)=1 port(%1$d, 7)=0 port(%1$d, 8)=BAD_VALUE"
                    + " port(%1$d, MIN)=BAD_VALUE port(%1$d, MAX)=BAD_VALUE", port);
        }
        e.sentence(promise, "Returns the number");
        for (int what = 0; what <= 7; what++) {
            e.refused("port(4, %d)=%s", what, new String[] {"1", "0", "20", "2", "6", "1", "0", "3"}[what]);
        }
        e.sentence(promise, "0 for whether it is up (1, otherwise 0)");
        e.run("port(5, 0)=1 setPort(5, false)=7 port(5, 0)=0 port(4, 0)=1 port(6, 0)=1 setPort(5, true)=8"
                + " port(5, 0)=1");
        e.sentence(promise, "1 for whether it is open");
        e.run("set(2, 1)=10 port(5, 1)=1 frame(5, 1, 0, 0)=3 port(5, 1)=1 frame(5, 1, 0, 0)=5 port(5, 1)=0 port(5, 0)=1"
                + " port(4, 1)=1 release(5)=30 port(5, 1)=1 setPort(5, false)=7 port(5, 1)=0");
        e.sentence(promise, "4 for the port at the other end of its cable (NONE if it has none)");
        e.run("port(0, 4)=NONE join(0, 7)=1 port(0, 4)=7 port(7, 4)=0 port(1, 4)=NONE part(7)=0 port(0, 4)=NONE"
                + " port(7, 4)=NONE");
        e.sentence(promise, "5 for the frames in its queue");
        e.run("port(0, 5)=0 frame(0, 1, 1, 0)=1 frame(1, 2, 1, 0)=2 port(0, 5)=1 11*frame(1, 2, 1, 0)=2 port(0, 5)=12"
                + " frame(1, 2, 1, 0)=2 port(0, 5)=12 pass(1)=4 port(0, 5)=8 pass(2)=8 port(0, 5)=0 port(1, 5)=0");
        e.sentence(promise, "6 for the entries with this port");
        Run run = e.run("port(0, 6)=0 port(7, 6)=0");
        for (int address = 1; address <= 20; address++) {
            run.calls("frame(7, %1$d, %1$d, 0)=1 port(7, 6)=%1$d", address);
        }
        run.calls("frame(7, 21, 21, 0)=1 port(7, 6)=20 frame(0, 21, 21, 0)=1 port(7, 6)=19 port(0, 6)=1 forget(2)=7"
                + " port(7, 6)=18 frame(0, 1, 1, 0)=1 port(0, 6)=2");
        e.sentence(promise, "7 for the floods that have come in at it in the present second");
        e.run("set(2, 2)=10 port(3, 7)=0 frame(3, 1, 0, 0)=3 port(3, 7)=1 frame(3, 1, 1, 0)=1 port(3, 7)=1"
                + " frame(3, 1, 2, 0)=3 port(3, 7)=2 frame(3, 1, 0, 0)=5 port(3, 7)=2 frame(3, 1, 0, 0)=0 port(3, 7)=2"
                + " port(2, 7)=0 pass(1)=14 port(3, 7)=0");
    }

    private void portAndQuarantines() {
        String promise = "Promise 16";
        e.sentence(promise, "2 for the seconds for which its quarantine goes on (0 if there is none)");
        e.run("set(1, 3)=30 set(2, 1)=10 port(5, 2)=0 frame(5, 1, 0, 0)=3 port(5, 2)=0 frame(5, 1, 0, 0)=5 port(5, 2)=3"
                + " port(4, 2)=0 pass(1) port(5, 2)=2 pass(1) port(5, 2)=1 pass(1) port(5, 2)=0 pass(1) port(5, 2)=0"
                + " frame(5, 1, 0, 0)=3 frame(5, 1, 0, 0)=5 pass(10) port(5, 2)=0 frame(5, 1, 0, 0)=3"
                + " frame(5, 1, 0, 0)=5 port(5, 2)=3 release(5)=3 port(5, 2)=0");
        e.sentence(promise, "3 for why it was put in quarantine the last time (0 never, 1 moves, 2 a storm)");
        e.run("set(2, 1)=10 port(3, 3)=0 " + MOVED_TWICE + "frame(3, 1, 1, 0)=4 port(3, 3)=1 port(2, 3)=0 release(3)=30"
                + " port(3, 3)=1 frame(3, 9, 0, 0)=3 port(3, 3)=1 frame(3, 9, 0, 0)=5 port(3, 3)=2 release(3)=30"
                + " port(3, 3)=2 frame(4, 1, 1, 0)=1 frame(3, 1, 1, 0)=4 port(3, 3)=1 pass(10) pass(10) pass(10)"
                + " port(3, 2)=0 port(3, 3)=1 count(11)=3 keep()=30 restore()=30 port(3, 3)=1");
        e.run("set(2, 1)=10 frame(3, 9, 0, 0)=3 frame(3, 9, 0, 0)=5 port(3, 3)=2 undo()=2 port(3, 3)=0 port(3, 2)=0");
    }

    private void account() {
        String promise = "Promise 17";
        e.sentence(promise, "`port`: 0 to 7");
        e.sentence(promise, "UNKNOWN;");
        for (String no : Edges.NO_PORTS) {
            for (int what = -1; what <= 11; what++) {
                e.run("account(%s, %d)=UNKNOWN", no, what);
            }
        }
        e.sentence(promise, "BAD_VALUE");
        for (int port = 0; port < 8; port++) {
            e.run("account(%1$d, -1)=BAD_VALUE account(%1$d, 0)=0 account(%1$d, 10)=0 account(%1$d, 11)=BAD_VALUE"
                    + " account(%1$d, MIN)=BAD_VALUE account(%1$d, MAX)=BAD_VALUE", port);
        }
        e.sentence(promise, "Returns the number");
        for (int what = 0; what <= 10; what++) {
            e.refused("account(4, %d)=%d", what, new int[] {4, 0, 0, 0, 3, 1, 0, 1, 0, 0, 0}[what]);
        }
        e.sentence(promise, "0 for all frames that have come in at it; of these, 1 for those that were turned away,"
                + " 2 filtered, 3 went out of one port, 4 were floods, 5 were cut, 6 came to a dead end;");
        for (int port = 0; port < 8; port++) {
            int far = (port + 4) % 8;
            Run run = e.run("set(2, 4)=10 frame(%1$d, 9, 9, 0)=1 frame(%1$d, 8, 8, 0)=1", far);
            String frames = "2*frame(%1$d, 1, 1, 0)=1 3*frame(%1$d, 1, 9, 0)=2 4*frame(%1$d, 1, 0, 0)=3"
                    + " setPort(%2$d, false)=7 5*frame(%1$d, 1, 9, 0)=6 frame(%1$d, 1, 0, 0)=5"
                    + " 6*frame(%1$d, 1, 0, 0)=0";
            run.calls(frames, port, far);
            int[] due = {21, 6, 2, 3, 4, 1, 5};
            for (int what = 0; what < due.length; what++) {
                run.calls("account(%d, %d)=%d account(%d, %d)=0", port, what, due[what], (port + 1) % 8, what);
            }
            run.calls("account(%1$d, 0)=2 account(%1$d, 2)=2 count(10)=23", far);
        }
        e.run("set(2, 1)=10 " + MOVED_TWICE + "frame(3, 1, 1, 0)=4 account(3, 5)=1 release(3)=30 frame(3, 9, 0, 0)=3"
                + " frame(3, 9, 0, 0)=5 account(3, 5)=2 account(3, 0)=3 account(3, 4)=1");
        e.run("join(0, 1)=1 frame(0, 1, 1, 0)=1 frame(2, 2, 1, 0)=2 account(1, 0)=0 pass(1)=1 account(1, 0)=1"
                + " account(1, 3)=1 account(0, 0)=1 pass(10)=10 account(1, 0)=11 account(1, 3)=11");
    }

    private void accountOfQueues() {
        String promise = "Promise 17";
        e.sentence(promise, "7 for frames that were put into its queue");
        e.run("frame(0, 1, 1, 0)=1 account(0, 7)=0 11*frame(1, 2, 1, 0)=2 account(0, 7)=11 frame(1, 2, 1, 0)=2"
                + " account(0, 7)=12 frame(1, 2, 1, 0)=2 account(0, 7)=12 pass(1)=4 account(0, 7)=12"
                + " frame(1, 2, 0, 0)=3 account(0, 7)=13 account(1, 7)=0 account(5, 7)=1");
        e.sentence(promise, "8 for those that were dropped (as its queue was full, or as it went down)");
        e.run("frame(0, 1, 1, 0)=1 12*frame(1, 2, 1, 0)=2 account(0, 8)=0 frame(1, 2, 1, 0)=2 account(0, 8)=1"
                + " frame(1, 2, 0, 0)=3 account(0, 8)=2 account(2, 8)=0 setPort(0, false)=7 account(0, 8)=14"
                + " setPort(0, true)=8 account(0, 8)=14 setPort(0, false)=7 account(0, 8)=14 setPort(2, false)=6"
                + " account(2, 8)=1 account(0, 7)=12");
        e.run("set(2, 1)=10 frame(0, 1, 0, 0)=3 frame(3, 2, 0, 0)=3 frame(3, 2, 0, 0)=5 account(3, 8)=0"
                + " setPort(3, false)=7 account(3, 8)=1");
        e.sentence(promise, "9 for those that it has sent, 10 for those of them that were delivered");
        e.run("frame(0, 1, 1, 0)=1 5*frame(1, 2, 1, 0)=2 account(0, 9)=0 account(0, 10)=0 pass(1)=4 account(0, 9)=4"
                + " account(0, 10)=4 join(0, 7)=1 pass(1)=1 account(0, 9)=5 account(0, 10)=4 setPort(7, false)=7"
                + " 2*frame(1, 2, 1, 0)=2 pass(1) account(0, 9)=8 account(0, 10)=4 part(0)=7 frame(1, 2, 1, 0)=2"
                + " pass(1)=1 account(0, 9)=9 account(0, 10)=5 setPort(0, false)=6 account(0, 9)=9 account(1, 9)=0");
    }

    private void entry() {
        String promise = "Promise 18";
        e.sentence(promise, "`entry`: an entry, from 0 in the order of their addresses");
        e.run("frame(0, 50, 50, 0)=1 frame(1, 99, 99, 0)=1 frame(2, 1, 1, 0)=1 entry(0, 0)=1 entry(1, 0)=50"
                + " entry(2, 0)=99 frame(3, 49, 49, 0)=1 entry(1, 0)=49 entry(2, 0)=50 entry(3, 0)=99 forget(1)=2"
                + " entry(0, 0)=49 entry(2, 0)=99");
        e.sentence(promise, "BAD_VALUE if entry is negative or what is out of range");
        e.run("entry(-1, 0)=BAD_VALUE entry(MIN, 0)=BAD_VALUE entry(0, -1)=BAD_VALUE entry(0, 4)=BAD_VALUE"
                + " frame(0, 50, 50, 0)=1 entry(-1, 0)=BAD_VALUE entry(-1, 4)=BAD_VALUE entry(0, -1)=BAD_VALUE"
                + " entry(0, 0)=50 entry(0, 3)=0 entry(0, 4)=BAD_VALUE entry(0, MIN)=BAD_VALUE"
                + " entry(0, MAX)=BAD_VALUE");
        e.sentence(promise, "NONE if there are not so many");
        e.run("entry(0, 0)=NONE entry(MAX, 3)=NONE frame(0, 50, 50, 0)=1 entry(0, 0)=50 entry(1, 0)=NONE"
                + " entry(1, 3)=NONE entry(MAX, 0)=NONE forget(50)=0 entry(0, 0)=NONE");
        Run run = e.run("");
        for (int address = 1; address <= 20; address++) {
            run.calls("frame(0, %1$d, %1$d, 0)=1 entry(%2$d, 0)=%1$d entry(%1$d, 0)=NONE", address, address - 1);
        }
        e.sentence(promise, "Returns the number");
        for (int what = 0; what <= 3; what++) {
            e.refused("entry(0, %d)=%d", what, new int[] {8, 3, 0, 0}[what]);
        }
        e.sentence(promise, "0 for its address, 1 for its port, 2 for how many seconds ago its time is");
        for (int port = 0; port < 8; port++) {
            e.run("frame(%1$d, 99, 99, 0)=1 entry(0, 0)=99 entry(0, 1)=%1$d entry(0, 2)=0 pass(1)=0 entry(0, 2)=1"
                    + " pass(10)=0 entry(0, 2)=11 frame(%1$d, 99, 99, 0)=1 entry(0, 2)=0", port);
        }
        e.run("frame(0, 1, 1, 0)=1").seconds(59).calls("entry(0, 2)=59 pass(1)=0 entry(0, 2)=NONE");
        e.run("frame(0, 1, 1, 0)=1 pass(7)=0 set(0, 3)=60 entry(0, 2)=7");
        e.sentence(promise, "3 for how often its address has moved in the latest 10 seconds");
        e.run("frame(0, 1, 1, 0)=1 entry(0, 3)=0 frame(1, 1, 1, 0)=1 entry(0, 3)=1 pass(9)=0 entry(0, 3)=1"
                + " frame(2, 1, 1, 0)=1 entry(0, 3)=2 pass(1)=0 entry(0, 3)=1 pass(8)=0 entry(0, 3)=1 pass(1)=0"
                + " entry(0, 3)=0");
        e.run(MOVED_TWICE + "entry(0, 3)=2 frame(3, 1, 1, 0)=4 entry(0, 3)=NONE frame(4, 1, 1, 0)=1 entry(0, 3)=3"
                + " pass(9)=0 entry(0, 3)=3 pass(1)=0 entry(0, 3)=0");
    }

    private void where() {
        String promise = "Promise 19";
        e.sentence(promise, "`address`: 1 to 99");
        e.sentence(promise, "BAD_VALUE;");
        for (String no : new String[] {"MIN", "-1", "0", "100", "MAX"}) {
            e.run("where(%1$s)=BAD_VALUE frame(0, 1, 1, 0)=1 frame(0, 99, 99, 0)=1 where(%1$s)=BAD_VALUE", no);
        }
        e.sentence(promise, "Returns the port of the entry for it");
        for (int address = 1; address <= 99; address++) {
            e.run("where(%1$d)=NONE frame(%2$d, %1$d, %1$d, 0)=1 where(%1$d)=%2$d", address, address % 8);
        }
        e.refused("where(9)=2");
        e.sentence(promise, "NONE if there is none");
        e.run("where(1)=NONE where(99)=NONE frame(0, 50, 50, 0)=1 where(49)=NONE where(51)=NONE where(50)=0"
                + " forget(50)=0 where(50)=NONE");
    }

    private void queued() {
        String promise = "Promise 20";
        e.sentence(promise, "`port`: 0 to 7");
        e.sentence(promise, "UNKNOWN;");
        for (String no : Edges.NO_PORTS) {
            e.run("frame(0, 1, 0, 0)=3 queued(%1$s, 0, 0)=UNKNOWN queued(%1$s, -1, 0)=UNKNOWN"
                    + " queued(%1$s, 0, 4)=UNKNOWN queued(%1$s, 12, 3)=UNKNOWN", no);
        }
        e.sentence(promise, "`place`: a place in the order in which the frames of its queue would be sent, from 0");
        e.run("frame(0, 1, 1, 0)=1 frame(1, 2, 1, 0)=2 queued(0, 0, 3)=0 frame(1, 2, 1, 2)=2 queued(0, 0, 3)=1"
                + " frame(1, 2, 1, 1)=2 queued(0, 1, 3)=2 queued(0, 2, 3)=0 frame(1, 2, 1, 2)=2 queued(0, 0, 3)=1"
                + " queued(0, 1, 3)=3 queued(0, 2, 3)=2 queued(0, 3, 3)=0 set(3, 1)=4 pass(1)=1 queued(0, 0, 3)=3"
                + " queued(0, 2, 3)=0 queued(0, 3, 3)=NONE");
        e.sentence(promise, "BAD_VALUE if place is negative or what is out of range");
        e.run("queued(0, -1, 0)=BAD_VALUE queued(0, MIN, 0)=BAD_VALUE queued(0, 0, -1)=BAD_VALUE"
                + " queued(0, 0, 4)=BAD_VALUE frame(1, 1, 0, 0)=3 queued(0, -1, 0)=BAD_VALUE queued(0, 0, 0)=1"
                + " queued(0, 0, -1)=BAD_VALUE queued(0, 0, 3)=0 queued(0, 0, 4)=BAD_VALUE queued(0, 0, MIN)=BAD_VALUE"
                + " queued(0, 0, MAX)=BAD_VALUE queued(0, 12, 4)=BAD_VALUE");
        e.sentence(promise, "NONE if there are not so many");
        Run run = e.run("frame(0, 1, 1, 0)=1 queued(0, 0, 0)=NONE");
        for (int frames = 1; frames <= 12; frames++) {
            run.calls("frame(1, 2, 1, 0)=2 queued(0, %1$d, 3)=%1$d queued(0, %2$d, 0)=NONE queued(0, %2$d, 3)=NONE"
                    + " queued(0, MAX, 3)=NONE queued(7, 0, 0)=NONE", frames - 1, frames);
        }
        run.calls("frame(1, 2, 1, 0)=2 queued(0, 12, 3)=NONE queued(0, 13, 3)=NONE pass(3)=12 queued(0, 0, 0)=NONE");
        e.sentence(promise, "0 for the source, 1 for the destination, 2 for the priority, 3 for the number");
        for (int port = 0; port < 8; port++) {
            e.run("frame(%1$d, 97, 97, 0)=1 frame(%2$d, 98, 97, 3)=2 frame(%2$d, 99, 0, 2)=3 queued(%1$d, 0, 0)=98"
                    + " queued(%1$d, 0, 1)=97 queued(%1$d, 0, 2)=3 queued(%1$d, 0, 3)=0 queued(%1$d, 1, 0)=99"
                    + " queued(%1$d, 1, 1)=0 queued(%1$d, 1, 2)=2 queued(%1$d, 1, 3)=%3$d", port, (port + 1) % 8,
                    port == 7 ? 7 : port + 1 - (port + 1 < port ? 1 : 0));
        }
        e.sentence(promise, "Returns the number");
        for (int what = 0; what <= 3; what++) {
            e.refused("queued(4, 0, %d)=%d", what, new int[] {9, 0, 3, 3}[what]);
        }
    }

    private void wouldGo() {
        String promise = "Promise 21";
        e.sentence(promise, "`port`: 0 to 7");
        e.sentence(promise, "UNKNOWN;");
        for (String no : Edges.NO_PORTS) {
            e.refused("wouldGo(%s, 9, 8)=UNKNOWN", no);
            e.refused("wouldGo(%s, 0, 100)=UNKNOWN", no);
        }
        e.sentence(promise, "BAD_VALUE");
        e.sentence(promise, "`source`: 1 to 99");
        for (String no : new String[] {"MIN", "-1", "0", "100", "MAX"}) {
            e.refused("wouldGo(2, %s, 8)=BAD_VALUE", no);
            e.refused("wouldGo(7, %s, 8)=BAD_VALUE", no);
        }
        e.run("wouldGo(0, 1, 0)=254 wouldGo(0, 99, 0)=254");
        e.sentence(promise, "`destination`: 0 to 99");
        for (String no : new String[] {"MIN", "-1", "100", "MAX"}) {
            e.refused("wouldGo(2, 9, %s)=BAD_VALUE", no);
            e.refused("wouldGo(7, 9, %s)=BAD_VALUE", no);
        }
        e.run("wouldGo(0, 50, 0)=254 wouldGo(0, 50, 1)=254 wouldGo(0, 50, 99)=254");
        e.sentence(promise, "Returns these ports as a bit set (the bit k for the port k;");
        for (int port = 0; port < 8; port++) {
            e.run("wouldGo(%1$d, 2, 0)=%3$d frame(%1$d, 1, 1, 0)=1 wouldGo(%2$d, 2, 1)=%4$d wouldGo(%1$d, 2, 1)=0"
                    + " setPort(%1$d, false)=7 wouldGo(%2$d, 2, 0)=%5$d wouldGo(%2$d, 2, 1)=0 wouldGo(%1$d, 1, 0)=0",
                    port, (port + 1) % 8, 255 - (1 << port), 1 << port, 255 - (1 << port) - (1 << (port + 1) % 8));
        }
        e.sentence(promise, "also those whose queue is full)");
        e.run("frame(0, 1, 1, 0)=1 11*frame(1, 2, 1, 0)=2 wouldGo(1, 2, 1)=1 frame(1, 2, 1, 0)=2 port(0, 5)=12"
                + " wouldGo(1, 2, 1)=1 wouldGo(1, 2, 0)=253 frame(1, 2, 1, 0)=2 wouldGo(1, 2, 1)=1");
        e.sentence(promise, "Nothing changes");
        e.refused("wouldGo(2, 9, 8)=8");
        e.refused("wouldGo(3, 8, 0)=103");
        e.refused("wouldGo(2, 7, 0)=107");
        e.refused("wouldGo(2, 5, 0)=107");
        e.refused("wouldGo(4, 9, 8)=0");
        e.changesNothing("", "set(2, 1)=10 frame(3, 9, 0, 0)=3 " + MOVED_TWICE, "wouldGo(3, 2, 0)=0"
                + " wouldGo(3, 1, 9)=0");
    }

    private void wouldGoByAllSteps() {
        e.sentence("Promise 21", "Tells of which ports a frame would go out if it came in now, by all steps"
                + " (what it would teach, and for what it would be cut, too)");
        // The first two moves go out, the third one is cut.
        e.run("frame(0, 1, 1, 0)=1 frame(7, 2, 2, 0)=1 wouldGo(1, 1, 2)=128 frame(1, 1, 2, 0)=2 wouldGo(2, 1, 2)=128"
                + " frame(2, 1, 2, 0)=2 wouldGo(2, 1, 2)=128 wouldGo(3, 1, 2)=0 wouldGo(3, 1, 0)=0 wouldGo(3, 9, 2)=128"
                + " pass(9) wouldGo(3, 1, 2)=0 pass(1) wouldGo(3, 1, 2)=128");
        // The last flood that goes out, and the first that is cut.
        e.run("set(2, 2)=10 wouldGo(0, 1, 0)=254 frame(0, 1, 0, 0)=3 wouldGo(0, 1, 0)=254 frame(0, 1, 0, 0)=3"
                + " wouldGo(0, 1, 0)=0 wouldGo(0, 1, 9)=0 wouldGo(1, 9, 0)=253 frame(7, 7, 7, 0)=1 wouldGo(0, 1, 7)=128"
                + " pass(1) wouldGo(0, 1, 0)=254");
        // What it would teach: itself, and that an entry is removed for it.
        e.run("wouldGo(0, 1, 1)=0 where(1)=NONE frame(3, 1, 1, 0)=1 wouldGo(0, 1, 1)=0 wouldGo(0, 2, 1)=8 where(1)=3");
        Run run = e.run("");
        for (int address = 1; address <= 20; address++) {
            run.calls("frame(0, %1$d, %1$d, 0)=1 wouldGo(1, 99, 1)=%2$d", address, address == 20 ? 253 : 1);
        }
        run.calls("wouldGo(1, 99, 2)=1 wouldGo(1, 20, 1)=1 wouldGo(0, 99, 1)=254 wouldGo(0, 99, 2)=0 where(1)=0"
                + " count(5)=20");
    }

    private void loops() {
        String promise = "Promise 22";
        e.sentence(promise, "Finds the open ports from which a frame could come back:"
                + " those whose cable leads to an open port");
        e.run("loops()=0 join(0, 7)=1 loops()=129 setPort(0, false)=7 loops()=0 setPort(7, false)=6 loops()=0"
                + " setPort(0, true)=7 loops()=0 setPort(7, true)=8 loops()=129 setPort(1, false)=7 loops()=129"
                + " part(0)=7 loops()=0");
        e.run("set(2, 1)=10 join(2, 5)=1 join(0, 7)=2 loops()=165 frame(5, 1, 0, 0)=3 frame(5, 1, 0, 0)=5 loops()=129"
                + " frame(2, 1, 0, 0)=3 frame(2, 1, 0, 0)=5 loops()=129 release(5)=30 loops()=129 release(2)=30"
                + " loops()=165");
        e.sentence(promise, "Returns these ports as a bit set");
        e.run("join(0, 1)=1 loops()=3 join(2, 3)=2 loops()=15 join(4, 5)=3 loops()=63 join(6, 7)=4 loops()=255"
                + " part(3)=2 loops()=243 part(0)=1 loops()=240");
        e.refused("loops()=3");
    }

    private void count() {
        String promise = "Promise 23";
        e.sentence(promise, "BAD_VALUE");
        e.run("count(MIN)=BAD_VALUE count(-1)=BAD_VALUE count(0)=60 count(14)=0 count(15)=BAD_VALUE"
                + " count(MAX)=BAD_VALUE");
        e.sentence(promise, "Returns the number");
        int[] due = {40, 20, 3, 2, 1, 2, 6, 1, 2, 25, 8, 1, 25, 4, 13};
        for (int what = 0; what < due.length; what++) {
            e.refused("count(%d)=%d", what, due[what]);
        }
        e.sentence(promise, "0 to 3 for the settings, 4 for the clock");
        e.run("set(0, 1000)=60 set(1, 600)=30 set(2, 50)=10 set(3, 10)=4 count(0)=1000 count(1)=600 count(2)=50"
                + " count(3)=10 count(4)=0 pass(10)=0 count(4)=10 undo()=3 count(4)=0");
        e.sentence(promise, "5 for the entries, 6 for the open ports, 7 for the ports in quarantine, 8 for the cables");
        e.run("set(2, 1)=10 count(5)=0 frame(0, 1, 0, 0)=3 count(5)=1 frame(1, 2, 0, 0)=3 count(5)=2 count(6)=8"
                + " count(7)=0 frame(0, 1, 0, 0)=5 count(5)=1 count(6)=7 count(7)=1 setPort(0, false)=7 count(6)=7"
                + " count(7)=1 frame(1, 2, 0, 0)=5 count(5)=0 count(6)=6 count(7)=2 release(0)=30 count(6)=6"
                + " count(7)=1 count(8)=0 join(0, 1)=1 count(8)=1 join(2, 3)=2 count(8)=2 part(1)=0 count(8)=1");
        Run run = e.run("");
        for (int port = 0; port < 8; port++) {
            run.calls("setPort(%d, false)=%d count(6)=%d", port, 7 - port, 7 - port);
        }
        e.sentence(promise, "9 for all frames in queues, 10 for all frames that have come in at any port");
        e.run("count(9)=0 frame(0, 1, 0, 0)=3 count(9)=7 count(10)=1 frame(7, 2, 1, 0)=2 count(9)=8 count(10)=2"
                + " frame(7, 2, 2, 0)=1 count(9)=8 count(10)=3 setPort(7, false)=7 count(9)=7 frame(7, 2, 2, 0)=0"
                + " count(10)=4 pass(1)=7 count(9)=0 count(10)=4");
        Run full = e.run("set(2, 50)=10 12*frame(0, 1, 0, 0)=3 count(9)=84 12*frame(1, 2, 1, 0)=2 count(9)=96");
        full.calls("frame(1, 2, 0, 0)=3 count(9)=96 count(12)=96 count(10)=25 pass(1)=32 count(9)=64");
        e.sentence(promise, "11 for quarantines that have begun, 12 for the number that the next frame in a queue"
                + " would get");
        e.run("set(2, 1)=10 count(11)=0 frame(0, 1, 0, 0)=3 count(11)=0 frame(0, 1, 0, 0)=5 count(11)=1 release(0)=30"
                + " count(11)=1 frame(0, 1, 0, 0)=5 count(11)=2 frame(0, 1, 0, 0)=0 count(11)=2 undo()=3 undo()=2"
                + " count(11)=1 count(12)=7 frame(1, 1, 0, 0)=3 queued(0, 0, 3)=7 count(12)=14 undo()=2 count(12)=7");
        e.sentence(promise, "13 for the states in the history, 14 for the length of the text");
        e.run("count(13)=0 pass(1)=0 count(13)=1 pass(1)=0 pass(1)=0 count(13)=3 pass(1)=0 count(13)=4 pass(1)=0"
                + " count(13)=4 undo()=3 count(13)=3 count(14)=0 type(0)=1 count(14)=1 69*type(48) count(14)=70"
                + " type(48)=NOT_POSSIBLE count(14)=70 clearText()=70 count(14)=0");
    }
}
