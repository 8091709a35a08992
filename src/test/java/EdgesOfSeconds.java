/** The sentences of SECONDS and promise 9. */
final class EdgesOfSeconds {
    private static final String SECONDS = "SECONDS";
    /** 0 and 1 are joined, and a frame to 1, which is at 0, waits at 0. */
    private static final String ON_A_CABLE = "join(0, 1)=1 frame(0, 1, 1, 0)=1 frame(2, 2, 1, 0)=2 ";

    private final Edges e;

    EdgesOfSeconds(Edges edges) {
        e = edges;
    }

    void all() {
        sendingBeforeComingIn();
        comingInBeforeTheClock();
        rates();
        priorities();
        cables();
        orderOfSending();
        clock();
        quarantinesEnd();
        entriesAge();
        floodsBeginAnew();
        pass();
    }

    private void sendingBeforeComingIn() {
        e.sentence(SECONDS, "When a second passes, the following happens in this order:");
        // What comes in at a port waits for the next second.
        e.run(ON_A_CABLE + "pass(1)=1 port(0, 5)=1 account(0, 9)=1 pass(1)=1 account(0, 9)=2 pass(10)=10 port(0, 5)=1");
        // A port whose quarantine begins as frames come in has sent already.
        e.run("set(2, 1)=10 join(0, 1)=1 frame(0, 1, 1, 0)=1 frame(1, 5, 5, 0)=1 2*frame(2, 9, 1, 0)=2"
                + " frame(2, 9, 5, 0)=2 forget(1)=0 pass(1)=3 account(1, 9)=1 account(0, 9)=2 port(1, 3)=2"
                + " port(1, 5)=0 account(0, 0)=2 account(0, 4)=1");
    }

    private void comingInBeforeTheClock() {
        e.sentence(SECONDS, "When a second passes, the following happens in this order:");
        // Quarantines end after frames have come in.
        e.run("join(0, 1)=1 set(1, 2)=30 set(2, 1)=10 frame(1, 9, 0, 0)=3 frame(1, 9, 0, 0)=5 pass(1)=7 account(1, 1)=1"
                + " port(1, 2)=1 frame(0, 1, 1, 0)=1 frame(2, 2, 1, 0)=2 pass(1)=1 account(1, 1)=2 port(1, 1)=1"
                + " frame(2, 2, 1, 0)=2 pass(1)=1 account(1, 1)=2 account(1, 3)=1");
        // Entries are removed after frames have come in.
        e.run("set(0, 2)=60 join(0, 1)=1 frame(0, 1, 1, 0)=1 pass(1)=0 frame(2, 2, 1, 0)=2 pass(1)=1 account(1, 3)=1"
                + " account(1, 4)=0 where(1)=NONE where(2)=1");
        e.run("set(0, 1)=60 " + ON_A_CABLE + "pass(1)=1 account(1, 3)=1 where(1)=NONE where(2)=NONE");
        // What comes in has the time of the second that passes.
        e.run(ON_A_CABLE + "part(0)=1 join(0, 1)=1 pass(1)=1 entry(1, 0)=2 entry(1, 1)=1 entry(1, 2)=1 entry(1, 3)=1"
                + " part(0)=1 pass(8) entry(1, 3)=1 entry(1, 2)=9 pass(1) entry(1, 3)=0");
        // The floods of the second count with those that come in at its end.
        String floods = " join(0, 1)=1 frame(0, 1, 1, 0)=1 frame(2, 9, 1, 0)=2 forget(1)=0 frame(1, 8, 0, 0)=3"
                + " pass(1)=8 ";
        e.run("set(2, 1)=10" + floods + "port(1, 3)=2 account(1, 4)=1 account(1, 5)=1 account(1, 1)=1 port(1, 7)=0");
        e.run("set(2, 2)=10" + floods + "port(1, 3)=2 account(1, 4)=2 account(1, 5)=1 account(1, 1)=0 port(1, 7)=0");
        e.run("set(2, 3)=10" + floods + "port(1, 3)=0 account(1, 4)=3 account(1, 5)=0 account(1, 1)=0 port(1, 7)=0");
    }

    private void rates() {
        e.sentence(SECONDS, "Each open port, by its number, sends as many frames of its queue as the rate tells"
                + " (or all, if there are not so many):");
        for (int rate = 1; rate <= 10; rate++) {
            for (int frames = 0; frames <= 12; frames++) {
                int sent = Math.min(rate, frames);
                e.run("set(3, %1$d) frame(0, 1, 1, 0)=1 %2$d*frame(1, 2, 1, 0)=2 pass(1)=%3$d account(0, 9)=%3$d"
                        + " account(0, 10)=%3$d port(0, 5)=%4$d"
                        + " queued(0, 0, 3)=%5$s", rate, frames, sent, frames - sent,
                        sent < frames ? "" + sent : "NONE");
            }
        }
        e.run("frame(0, 1, 1, 0)=1 frame(7, 2, 2, 0)=1 12*frame(1, 3, 1, 0)=2 5*frame(1, 3, 2, 0)=2 pass(1)=8"
                + " port(0, 5)=8 port(7, 5)=1 pass(1)=5 pass(1)=4 pass(1)=0");
        e.run("frame(0, 1, 0, 0)=3 pass(1)=7 account(0, 9)=0 account(1, 9)=1 account(7, 9)=1 count(9)=0");
        // A port that is not open sends nothing.
        e.run("set(2, 1)=10 frame(0, 1, 0, 0)=3 frame(3, 2, 0, 0)=3 frame(3, 2, 0, 0)=5 port(3, 5)=1 pass(1)=13"
                + " port(3, 5)=1 account(3, 9)=0 release(3)=29 pass(1)=1 account(3, 9)=1");
        e.run("frame(0, 1, 0, 0)=3 setPort(3, false)=7 pass(1)=6 account(3, 9)=0 setPort(3, true)=8 pass(1)=0");
    }

    private void priorities() {
        e.sentence(SECONDS, "the one with the greatest priority first, of the same the one with the lowest number");
        e.run("set(3, 1)=4 frame(0, 1, 1, 0)=1 frame(1, 2, 1, 0)=2 frame(1, 2, 1, 3)=2 frame(1, 2, 1, 1)=2"
                + " frame(1, 2, 1, 3)=2 frame(1, 2, 1, 2)=2 frame(1, 2, 1, 0)=2 queued(0, 0, 3)=1 pass(1)=1"
                + " queued(0, 0, 3)=3 pass(1)=1 queued(0, 0, 3)=4 pass(1)=1 queued(0, 0, 3)=2 pass(1)=1"
                + " queued(0, 0, 3)=0 queued(0, 1, 3)=5 pass(1)=1 queued(0, 0, 3)=5 frame(1, 2, 1, 1)=2 pass(1)=1"
                + " queued(0, 0, 3)=5 pass(1)=1 queued(0, 0, 3)=NONE");
        e.run("set(3, 2)=4 frame(0, 1, 1, 0)=1 2*frame(1, 2, 1, 1)=2 2*frame(1, 2, 1, 2)=2 pass(1)=2 queued(0, 0, 3)=0"
                + " queued(0, 1, 3)=1 queued(0, 2, 3)=NONE");
        // The order of sending is that of coming in: so the first to come in gets the first numbers.
        e.run("join(0, 7)=1 frame(0, 1, 1, 0)=1 frame(4, 2, 1, 0)=2 frame(4, 3, 1, 3)=2 forget(1)=0 pass(1)=2"
                + " queued(3, 0, 0)=3 queued(3, 0, 3)=5 queued(3, 1, 0)=2 queued(3, 1, 3)=12");
    }

    private void cables() {
        e.sentence(SECONDS, "If a cable is on the port, the frame is on its way to the other end (be that open or"
                + " not);");
        e.run(ON_A_CABLE + "pass(1)=1 account(0, 9)=1 account(0, 10)=0 account(1, 0)=1 account(1, 1)=0 account(1, 3)=1"
                + " count(10)=3");
        e.run(ON_A_CABLE + "setPort(1, false)=7 pass(1)=1 account(0, 9)=1 account(0, 10)=0 account(1, 0)=1"
                + " account(1, 1)=1 count(9)=0 where(2)=2 count(10)=3");
        e.run("set(2, 1)=10 frame(1, 8, 0, 0)=3 frame(1, 8, 0, 0)=5 pass(1)=7 " + ON_A_CABLE + "pass(1)=1"
                + " account(0, 10)=1 account(1, 1)=1 count(9)=0 where(2)=2");
        e.run("join(0, 1)=1 frame(0, 1, 1, 0)=1 frame(1, 2, 2, 0)=1 frame(3, 3, 1, 0)=2 frame(3, 4, 2, 0)=2 pass(1)=2"
                + " where(3)=1 where(4)=0 account(0, 0)=2 account(1, 0)=2");
        e.sentence(SECONDS, "otherwise it is delivered");
        e.run("frame(0, 1, 1, 0)=1 frame(2, 2, 1, 0)=2 pass(1)=1 account(0, 9)=1 account(0, 10)=1 count(10)=2"
                + " where(2)=2");
        e.run(ON_A_CABLE + "part(1)=0 pass(1)=1 account(0, 10)=1 account(1, 0)=0 count(9)=0");
    }

    private void orderOfSending() {
        e.sentence(SECONDS, "Frames on their way come in at the other ends, in the order in which they were sent");
        // Those of port 0 come in first, be the other end's number, the priority and the frame's number as they may.
        e.run("join(0, 7)=1 join(1, 6)=2 frame(0, 1, 1, 0)=1 frame(1, 2, 2, 0)=1 frame(4, 4, 2, 3)=2"
                + " frame(4, 3, 1, 0)=2 forget(1)=0 forget(2)=1 pass(1)=2 queued(5, 0, 0)=4 queued(5, 0, 3)=14"
                + " queued(5, 1, 0)=3 queued(5, 1, 3)=7");
        e.run("join(0, 6)=1 join(1, 7)=2 frame(0, 1, 1, 0)=1 frame(1, 2, 2, 0)=1 frame(4, 4, 2, 3)=2"
                + " frame(4, 3, 1, 0)=2 forget(1)=0 forget(2)=1 pass(1)=2 queued(5, 0, 3)=14 queued(5, 1, 3)=7");
        // As many as can be on their way at once all come in.
        Run run = Edges.fillAllQueues(e.run("set(3, 10)=4 join(0, 1)=1 join(2, 3)=2 join(4, 5)=3 join(6, 7)=4"))
                .calls("count(10)=104 pass(1)=80 count(10)=184");
        for (int port = 0; port < 8; port++) {
            run.calls("account(%1$d, 0)=23 account(%1$d, 9)=10 account(%1$d, 10)=0 port(%1$d, 5)=12", port);
        }
        // The first one that comes in begins a quarantine: those behind it are turned away.
        e.run("set(2, 1)=10 join(0, 1)=1 frame(0, 1, 1, 0)=1 frame(2, 8, 8, 0)=1 frame(2, 9, 1, 0)=2"
                + " frame(2, 9, 1, 3)=2 frame(2, 8, 1, 1)=2 forget(1)=0 pass(1)=3 account(1, 4)=1 account(1, 5)=1"
                + " account(1, 1)=1 account(1, 0)=3 where(9)=NONE where(8)=NONE");
    }

    private void clock() {
        e.sentence(SECONDS, "The clock, which is 0 at first, goes on by 1");
        e.run("count(4)=0 pass(1)=0 count(4)=1 pass(1)=0 count(4)=2 pass(10)=0 count(4)=12 pass(9)=0 count(4)=21"
                + " keep()=21");
    }

    private void quarantinesEnd() {
        e.sentence(SECONDS, "Quarantines that are over then end");
        e.run("set(2, 1)=10 set(1, 2)=30 frame(3, 1, 0, 0)=3 frame(3, 1, 0, 0)=5 set(1, 3)=2 frame(0, 2, 0, 0)=3"
                + " frame(0, 2, 0, 0)=5 count(7)=2 pass(1) count(7)=2 port(3, 2)=1 port(0, 2)=2 port(3, 1)=0 pass(1)"
                + " count(7)=1 port(3, 2)=0 port(3, 1)=1 port(0, 2)=1 port(0, 1)=0 count(6)=7 pass(1) count(7)=0"
                + " port(0, 2)=0 port(0, 1)=1 count(6)=8 pass(1) port(0, 2)=0 port(3, 2)=0 count(11)=2");
        for (int port = 0; port < 8; port++) {
            e.run("set(2, 1)=10 set(1, 11)=30 frame(%1$d, 1, 0, 0)=3 frame(%1$d, 1, 0, 0)=5 pass(10) port(%1$d, 2)=1"
                    + " port(%1$d, 1)=0 pass(1) port(%1$d, 2)=0 port(%1$d, 1)=1", port);
        }
    }

    private void entriesAge() {
        e.sentence(SECONDS, "Entries whose time is as many seconds ago as the age tells, or more, are removed");
        for (int age = 1; age <= 11; age++) {
            e.run("set(0, %d)=60 frame(0, 1, 1, 0)=1 frame(7, 99, 99, 0)=1", age).seconds(age - 1)
                    .calls("where(1)=0 where(99)=7 entry(0, 2)=%d frame(3, 50, 50, 0)=1 pass(1)=0", age - 1)
                    .calls("where(1)=NONE where(99)=NONE where(50)=%s", age == 1 ? "NONE" : "3")
                    .calls("port(0, 6)=0 port(7, 6)=0 count(5)=%d", age == 1 ? 0 : 1);
        }
        e.run("frame(0, 1, 1, 0)=1 pass(1)=0 frame(0, 2, 2, 0)=1 pass(1)=0 frame(0, 3, 3, 0)=1 pass(1)=0"
                + " frame(0, 4, 4, 0)=1 set(0, 3)=60 count(5)=4 pass(1)=0 where(1)=NONE where(2)=NONE where(3)=0"
                + " where(4)=0 count(5)=2");
    }

    private void floodsBeginAnew() {
        e.sentence(SECONDS, "The count of floods of each port begins anew");
        for (int port = 0; port < 8; port++) {
            e.run("set(2, 2)=10 frame(%1$d, 1, 0, 0)=3 port(%1$d, 7)=1 pass(1)=7 port(%1$d, 7)=0 account(%1$d, 4)=1"
                    + " 2*frame(%1$d, 1, 0, 0)=3 port(%1$d, 7)=2 frame(%1$d, 1, 0, 0)=5 port(%1$d, 7)=2 pass(1)=14"
                    + " port(%1$d, 7)=0 release(%1$d)=29 frame(%1$d, 1, 0, 0)=3 port(%1$d, 7)=1", port);
        }
        e.run("frame(3, 1, 0, 0)=3 setPort(3, false)=7 port(3, 7)=1 pass(1)=7 port(3, 7)=0 setPort(3, true)=8"
                + " 10*frame(3, 1, 0, 0)=3 frame(3, 1, 0, 0)=5");
        e.run("frame(0, 1, 0, 0)=3 2*frame(7, 2, 0, 0)=3 port(0, 7)=1 port(7, 7)=2 pass(2)=21 port(0, 7)=0"
                + " port(7, 7)=0");
    }

    private void pass() {
        e.sentence("Promise 9", "`seconds`: 1 to 10");
        e.sentence("Promise 9", "BAD_VALUE");
        for (String no : new String[] {"MIN", "-1", "0", "11", "MAX"}) {
            e.refused("pass(%s)=BAD_VALUE", no);
        }
        for (int seconds = 1; seconds <= 10; seconds++) {
            e.run("pass(%1$d)=0 count(4)=%1$d count(13)=1", seconds);
        }
        e.sentence("Promise 9", "Lets seconds pass, one after the other");
        for (int seconds = 1; seconds <= 10; seconds++) {
            Run together = e.run(Edges.BUSY + " pass(" + seconds + ")");
            Run apart = e.run(Edges.BUSY + " " + seconds + "*pass(1)");
            e.same("what is told after pass(" + seconds + ")", together.told().butHistory(), apart.told().butHistory());
        }
        e.sentence("Promise 9", "This is an act");
        e.act("", "pass(1)");
        e.act("", "pass(10)");
        e.act(Edges.BUSY, "pass(1)");
        e.act(Edges.BUSY, "pass(10)");
        e.sentence("Promise 9", "Returns how many frames are sent in them");
        String waiting = "frame(0, 1, 1, 0)=1 12*frame(1, 2, 1, 0)=2 ";
        e.run(waiting + "pass(1)=4 pass(1)=4 pass(1)=4 pass(1)=0");
        e.run(waiting + "pass(2)=8 pass(2)=4 pass(2)=0");
        e.run(waiting + "pass(3)=12 pass(10)=0");
        e.run(waiting + "pass(10)=12 account(0, 9)=12");
        e.run(waiting + "frame(5, 6, 0, 0)=3 pass(10)=18");
        e.run(ON_A_CABLE + "pass(7)=7 setPort(1, false)=7 pass(10)=1 pass(10)=0");
    }
}
