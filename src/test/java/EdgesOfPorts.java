import java.util.ArrayList;
import java.util.Comparator;
import java.util.List;

/** The sentences of PORTS, SETTINGS and promises 1 to 6. */
final class EdgesOfPorts {
    private final Edges e;

    EdgesOfPorts(Edges edges) {
        e = edges;
    }

    void all() {
        ports();
        openPorts();
        cables();
        queues();
        settings();
        newObject();
        setPort();
        setPortAnswers();
        join();
        part();
        release();
        set();
        setAndWhatHasBegun();
    }

    private void ports() {
        e.sentence("PORTS", "There are 8 ports, 0 to 7");
        for (String no : Edges.NO_PORTS) {
            e.run("setPort(%1$s, false)=UNKNOWN setPort(%1$s, true)=UNKNOWN join(%1$s, 0)=UNKNOWN join(0, %1$s)=UNKNOWN"
                    + " part(%1$s)=UNKNOWN release(%1$s)=UNKNOWN frame(%1$s, 1, 0, 0)=UNKNOWN port(%1$s, 0)=UNKNOWN"
                    + " account(%1$s, 0)=UNKNOWN queued(%1$s, 0, 0)=UNKNOWN wouldGo(%1$s, 1, 0)=UNKNOWN", no);
        }
        for (int port = 0; port < 8; port++) {
            e.run("setPort(%1$d, false)=7 setPort(%1$d, true)=8 part(%1$d)=NONE release(%1$d)=NONE"
                    + " frame(%1$d, 1, 1, 0)=1 port(%1$d, 0)=1 account(%1$d, 0)=1 queued(%1$d, 0, 0)=NONE"
                    + " wouldGo(%1$d, 2, 0)=%2$d join(%1$d, %3$d)=1"
                    + " count(6)=8", port, 255 - (1 << port), (port + 1) % 8);
        }
    }

    private void openPorts() {
        for (int port = 0; port < 8; port++) {
            e.sentence("PORTS", "A port is up (at first) or down, and can be in quarantine");
            e.run("port(%1$d, 0)=1 port(%1$d, 2)=0 setPort(%1$d, false)=7 port(%1$d, 0)=0 setPort(%1$d, true)=8"
                    + " port(%1$d, 0)=1 set(2, 1)=10 frame(%1$d, 1, 0, 0)=3 frame(%1$d, 1, 0, 0)=5 port(%1$d, 0)=1"
                    + " port(%1$d, 2)=30 setPort(%1$d, false)=7 port(%1$d, 0)=0 port(%1$d, 2)=30", port);
            e.sentence("PORTS", "It is open if it is up and not in quarantine");
            e.run("port(%1$d, 1)=1 count(6)=8 setPort(%1$d, false)=7 port(%1$d, 1)=0 count(6)=7"
                    + " frame(%1$d, 1, 1, 0)=0 setPort(%1$d, true)=8 port(%1$d, 1)=1 set(2, 1)=10"
                    + " frame(%1$d, 1, 0, 0)=3 frame(%1$d, 1, 0, 0)=5 port(%1$d, 1)=0 count(6)=7"
                    + " frame(%1$d, 1, 1, 0)=0 setPort(%1$d, false)=7 port(%1$d, 1)=0 frame(%1$d, 1, 1, 0)=0"
                    + " release(%1$d)=30 port(%1$d, 1)=0 count(6)=7 frame(%1$d, 1, 1, 0)=0 setPort(%1$d, true)=8"
                    + " port(%1$d, 1)=1 count(6)=8 frame(%1$d, 1, 1, 0)=1", port);
        }
    }

    private void cables() {
        e.sentence("PORTS", "A cable can join two ports");
        for (int port = 0; port < 8; port++) {
            for (int other = 0; other < 8; other++) {
                if (port != other) {
                    e.run("port(%1$d, 4)=NONE join(%1$d, %2$d)=1 port(%1$d, 4)=%2$d port(%2$d, 4)=%1$d count(8)=1"
                            + " loops()=%3$d", port, other, (1 << port) + (1 << other));
                }
            }
        }
        e.run("join(0, 7)=1 frame(0, 1, 1, 0)=1 frame(7, 2, 2, 0)=1 frame(3, 3, 1, 0)=2 frame(3, 4, 2, 0)=2 pass(1)=2"
                + " account(7, 0)=2 account(0, 0)=2 where(3)=7 where(4)=0 account(0, 10)=0 account(7, 10)=0");
        e.sentence("PORTS", "a port has at most one cable");
        Run run = e.run("port(0, 4)=NONE join(0, 1)=1 join(0, 2)=NOT_POSSIBLE join(2, 0)=NOT_POSSIBLE"
                + " join(1, 2)=NOT_POSSIBLE join(2, 1)=NOT_POSSIBLE join(0, 1)=NOT_POSSIBLE join(1, 0)=NOT_POSSIBLE"
                + " count(8)=1 part(1)=0 join(0, 2)=1 join(1, 3)=2 join(4, 5)=3 join(6, 7)=4 count(8)=4");
        for (int port = 0; port < 8; port++) {
            for (int other = 0; other < 8; other++) {
                run.calls(port == other ? "join(%d, %d)=BAD_VALUE" : "join(%d, %d)=NOT_POSSIBLE", port, other);
            }
        }
    }

    private void queues() {
        e.sentence("PORTS", "Each port has a queue of at most 12 frames that wait to be sent");
        for (int port = 0; port < 8; port++) {
            e.run("frame(%1$d, 1, 1, 0)=1 port(%1$d, 5)=0 frame(%2$d, 2, 1, 0)=2 port(%1$d, 5)=1"
                    + " 10*frame(%2$d, 2, 1, 0)=2 port(%1$d, 5)=11 account(%1$d, 8)=0"
                    + " frame(%2$d, 2, 1, 0)=2 port(%1$d, 5)=12 account(%1$d, 8)=0 account(%1$d, 7)=12"
                    + " queued(%1$d, 11, 3)=11 queued(%1$d, 12, 3)=NONE"
                    + " frame(%2$d, 2, 1, 3)=2 port(%1$d, 5)=12 account(%1$d, 8)=1 account(%1$d, 7)=12"
                    + " queued(%1$d, 0, 3)=0 queued(%1$d, 11, 3)=11 pass(1)=4 port(%1$d, 5)=8"
                    + " frame(%2$d, 2, 1, 0)=2 port(%1$d, 5)=9 account(%1$d, 7)=13 account(%1$d, 8)=1",
                    port, (port + 3) % 8);
        }
        Run run = Edges.fillAllQueues(e.run(""));
        for (int port = 0; port < 8; port++) {
            List<Integer> numbers = new ArrayList<>();
            for (int k = 0; k < 12; k++) {
                numbers.add(8 * k + port);
            }
            numbers.sort(Comparator.comparingInt((Integer number) -> -Edges.priority(number)).thenComparing(n -> n));
            for (int place = 0; place < 12; place++) {
                run.calls("queued(%1$d, %2$d, 0)=%3$d queued(%1$d, %2$d, 1)=%4$d queued(%1$d, %2$d, 2)=%5$d"
                        + " queued(%1$d, %2$d, 3)=%6$d", port, place, 11 + (port + 1) % 8, 1 + port,
                        Edges.priority(numbers.get(place)), numbers.get(place));
            }
        }
        Edges.fillAllQueues(e.run("set(3, 5)=4")).calls("count(9)=96 pass(1)=40 count(9)=56 pass(1)=40 count(9)=16"
                + " port(0, 5)=2 port(7, 5)=2 pass(1)=16 pass(1)=0 account(0, 10)=12 account(7, 10)=12");
    }

    private void settings() {
        e.sentence("SETTINGS", "There are four settings:");
        e.run("set(-1, 1)=BAD_VALUE set(0, 1)=60 set(3, 1)=4 set(4, 1)=BAD_VALUE count(0)=1 count(1)=30 count(2)=10"
                + " count(3)=1 set(MIN, 1)=BAD_VALUE set(MAX, 1)=BAD_VALUE");
        e.sentence("SETTINGS", "0 the age, 1 to 1000 seconds, at first 60;");
        range(0, 1000, 60);
        for (int age : new int[] {60, 1, 2, 1000}) {
            e.run("set(0, %d) frame(3, 1, 1, 0)=1", age).seconds(age - 1).calls("where(1)=3 entry(0, 2)=%d", age - 1)
                    .calls("pass(1)=0 where(1)=NONE");
        }
        e.sentence("SETTINGS", "1 the quarantine, 1 to 600 seconds, at first 30;");
        range(1, 600, 30);
        for (int quarantine : new int[] {30, 1, 2, 600}) {
            e.run("set(1, %d) set(2, 1)=10 frame(3, 1, 0, 0)=3 frame(3, 1, 0, 0)=5", quarantine)
                    .calls("port(3, 2)=%d", quarantine).seconds(quarantine - 1)
                    .calls("port(3, 2)=1 port(3, 1)=0 pass(1) port(3, 2)=0 port(3, 1)=1");
        }
        e.sentence("SETTINGS", "2 the floods, 1 to 50, at first 10;");
        range(2, 50, 10);
        for (int floods : new int[] {10, 1, 2, 50}) {
            e.run("set(2, %1$d) %1$d*frame(3, 1, 0, 0)=3 port(3, 7)=%1$d frame(3, 1, 0, 0)=5", floods);
        }
        e.sentence("SETTINGS", "3 the rate, 1 to 10, at first 4");
        range(3, 10, 4);
        for (int rate : new int[] {4, 1, 2, 10}) {
            e.run("set(3, %1$d) frame(0, 1, 1, 0)=1 12*frame(1, 2, 1, 0)=2 pass(1)=%1$d account(0, 9)=%1$d"
                    + " port(0, 5)=%2$d", rate, 12 - rate);
        }
    }

    private void range(int what, int most, int first) {
        e.run("count(%1$d)=%3$d set(%1$d, MIN)=BAD_VALUE set(%1$d, -1)=BAD_VALUE set(%1$d, 0)=BAD_VALUE"
                + " set(%1$d, 1)=%3$d count(%1$d)=1 set(%1$d, 2)=1 set(%1$d, %4$d)=2 set(%1$d, %2$d)=%4$d"
                + " count(%1$d)=%2$d set(%1$d, %5$d)=BAD_VALUE set(%1$d, MAX)=BAD_VALUE count(%1$d)=%2$d",
                what, most, first, most - 1, most + 1);
    }

    private void newObject() {
        e.sentence("Promise 1", "Creates a repeater whose ports are up, without cables and entries");
        StringBuilder due = new StringBuilder("60 30 10 4 0 0 8 0 0 0 0 0 0 0 0 l0");
        for (int port = 0; port < 8; port++) {
            due.append(" | p").append(port).append(" 1 1 0 0 -4 0 0 0 a 0 0 0 0 0 0 0 0 0 0 0");
        }
        e.same("what a new object tells", e.run("").told().all(), due.toString());
        Run run = e.run("undo()=NONE restore()=NONE clearText()=0 readFrames()=-100 entry(0, 0)=NONE entry(0, 3)=NONE");
        for (int address = 1; address <= 99; address++) {
            run.calls("where(%1$d)=NONE forget(%1$d)=NONE", address);
        }
        e.run("frame(0, 1, 2, 0)=3 join(0, 1)=1 setPort(3, false)=7 keep()=0 type(49)=1 set(0, 1)=60");
        e.same("what a new object tells after calls on another", e.run("").told().all(), due.toString());
    }

    private void setPort() {
        e.sentence("Promise 2", "`port`: 0 to 7");
        e.run("setPort(-1, false)=UNKNOWN setPort(8, false)=UNKNOWN setPort(0, false)=7 setPort(7, false)=6"
                + " setPort(-1, true)=UNKNOWN setPort(8, true)=UNKNOWN setPort(7, true)=7 setPort(0, true)=8");
        e.sentence("Promise 2", "Sets a port up or down");
        e.sentence("Promise 2", "`up`: whether it is up then");
        e.run("setPort(0, false)=7 port(0, 0)=0 port(0, 1)=0 port(1, 0)=1 setPort(0, true)=8 port(0, 0)=1"
                + " port(0, 1)=1");
        e.sentence("Promise 2", "When it goes down, all frames of its queue are dropped");
        for (int frames : new int[] {0, 1, 2, 11, 12}) {
            e.run("frame(0, 1, 1, 0)=1 frame(5, 5, 5, 0)=1 frame(1, 2, 5, 0)=2 %1$d*frame(1, 2, 1, 0)=2"
                    + " port(0, 5)=%1$d setPort(0, false)=7 port(0, 5)=0 account(0, 8)=%1$d account(0, 7)=%1$d"
                    + " queued(0, 0, 0)=NONE port(5, 5)=1 account(5, 8)=0 count(9)=1 setPort(0, true)=8 port(0, 5)=0"
                    + " account(0, 8)=%1$d pass(1)=1 account(0, 9)=0 account(5, 9)=1", frames);
        }
        e.run("frame(0, 1, 1, 0)=1 13*frame(1, 2, 1, 0)=2 account(0, 8)=1 setPort(0, false)=7 account(0, 8)=13");
        e.sentence("Promise 2", "entries with this port stay, and a quarantine goes on");
        e.run("frame(0, 1, 1, 0)=1 frame(0, 2, 2, 0)=1 setPort(0, false)=7 where(1)=0 where(2)=0 port(0, 6)=2"
                + " count(5)=2 entry(0, 2)=0 pass(9)=0 entry(0, 2)=9 setPort(0, true)=8 where(1)=0 entry(1, 2)=9")
                .seconds(50).calls("setPort(0, false)=7 where(1)=0 pass(1)=0 where(1)=NONE count(5)=0");
        e.run("set(1, 3)=30 set(2, 1)=10 frame(0, 1, 0, 0)=3 frame(0, 1, 0, 0)=5 setPort(0, false)=7 port(0, 2)=3"
                + " pass(1) port(0, 2)=2 setPort(0, true)=7 port(0, 2)=2 port(0, 1)=0 setPort(0, false)=7 pass(1)"
                + " port(0, 2)=1 setPort(0, true)=7 pass(1) port(0, 2)=0 port(0, 1)=1 count(6)=8");
        e.sentence("Promise 2", "This is an act");
        e.act("", "setPort(0, false)");
        e.act(Edges.BUSY, "setPort(3, false)");
        e.act(Edges.BUSY, "setPort(7, true)");
    }

    private void setPortAnswers() {
        e.sentence("Promise 2", "Returns the number of open ports then");
        Run run = e.run("");
        for (int port = 0; port < 8; port++) {
            run.calls("setPort(%d, false)=%d", port, 7 - port);
        }
        for (int port = 0; port < 8; port++) {
            run.calls("setPort(%d, true)=%d", port, port + 1);
        }
        e.run("set(2, 1)=10 frame(3, 1, 0, 0)=3 frame(3, 1, 0, 0)=5 setPort(4, false)=6 setPort(3, false)=6"
                + " setPort(3, true)=6 setPort(4, true)=7");
        e.sentence("Promise 2", "UNKNOWN;");
        for (String no : Edges.NO_PORTS) {
            e.refused("setPort(%s, false)=UNKNOWN", no);
            e.refused("setPort(%s, true)=UNKNOWN", no);
        }
        e.sentence("Promise 2", "NONE if it is so already");
        e.run("setPort(0, true)=NONE setPort(0, false)=7 setPort(0, false)=NONE setPort(0, true)=8"
                + " setPort(0, true)=NONE");
        e.refused("setPort(7, false)=NONE");
        e.refused("setPort(0, true)=NONE");
        e.refused("setPort(4, true)=NONE");
    }

    private void join() {
        e.sentence("Promise 3", "`port`: 0 to 7");
        e.run("join(-1, 3)=UNKNOWN join(8, 3)=UNKNOWN join(0, 3)=1 join(7, 4)=2");
        e.sentence("Promise 3", "`other`: 0 to 7");
        e.run("join(3, -1)=UNKNOWN join(3, 8)=UNKNOWN join(3, 0)=1 join(4, 7)=2");
        e.sentence("Promise 3", "Joins two ports by a cable");
        e.run("join(6, 2)=1 port(6, 4)=2 port(2, 4)=6 port(5, 4)=NONE");
        e.run("setPort(0, false)=7 join(0, 1)=1 port(0, 4)=1 loops()=0 setPort(0, true)=8 loops()=3");
        e.sentence("Promise 3", "This is an act");
        e.act("", "join(0, 7)");
        e.act(Edges.BUSY, "join(2, 7)");
        e.sentence("Promise 3", "Returns the number of cables then");
        e.run("join(0, 1)=1 join(3, 2)=2 join(7, 4)=3 join(5, 6)=4 part(2)=3 join(2, 3)=4");
        e.sentence("Promise 3", "UNKNOWN;");
        for (String no : Edges.NO_PORTS) {
            e.refused("join(%s, 2)=UNKNOWN", no);
            e.refused("join(2, %s)=UNKNOWN", no);
            e.refused("join(%s, 0)=UNKNOWN", no);
            e.refused("join(0, %s)=UNKNOWN", no);
            e.refused("join(%1$s, %1$s)=UNKNOWN", no);
        }
        e.sentence("Promise 3", "BAD_VALUE if both are the same");
        e.run("join(0, 0)=BAD_VALUE join(7, 7)=BAD_VALUE join(0, 1)=1 join(0, 0)=BAD_VALUE join(1, 1)=BAD_VALUE");
        e.refused("join(2, 2)=BAD_VALUE");
        e.refused("join(0, 0)=BAD_VALUE");
        e.sentence("Promise 3", "NOT_POSSIBLE if any of them has a cable");
        e.refused("join(0, 2)=NOT_POSSIBLE");
        e.refused("join(2, 0)=NOT_POSSIBLE");
        e.refused("join(0, 1)=NOT_POSSIBLE");
        e.refused("join(1, 0)=NOT_POSSIBLE");
        e.refused("join(1, 4)=NOT_POSSIBLE");
        e.run("join(0, 1)=1 part(0)=1 join(1, 2)=1 join(0, 3)=2");
    }

    private void part() {
        e.sentence("Promise 4", "`port`: 0 to 7");
        e.run("join(0, 7)=1 part(-1)=UNKNOWN part(8)=UNKNOWN part(0)=7 join(0, 7)=1 part(7)=0");
        e.sentence("Promise 4", "Takes away the cable of a port");
        e.run("join(0, 7)=1 join(1, 6)=2 part(0)=7 port(0, 4)=NONE port(7, 4)=NONE port(1, 4)=6 port(6, 4)=1 count(8)=1"
                + " loops()=66");
        e.run("join(0, 7)=1 frame(0, 1, 1, 0)=1 2*frame(3, 3, 1, 0)=2 set(3, 1)=4 pass(1)=1 account(0, 10)=0"
                + " account(7, 0)=1 part(7)=0 pass(1)=1 account(0, 10)=1 account(7, 0)=1");
        e.sentence("Promise 4", "This is an act");
        e.act("join(0, 7)=1", "part(7)");
        e.act(Edges.BUSY, "part(6)");
        e.sentence("Promise 4", "Returns the port at its other end");
        e.run("join(3, 5)=1 part(3)=5 join(3, 5)=1 part(5)=3 join(6, 0)=1 part(6)=0");
        e.sentence("Promise 4", "UNKNOWN;");
        for (String no : Edges.NO_PORTS) {
            e.refused("part(%s)=UNKNOWN", no);
        }
        e.sentence("Promise 4", "NONE if it has no cable");
        e.run("part(0)=NONE part(7)=NONE join(0, 7)=1 part(1)=NONE part(0)=7 part(0)=NONE part(7)=NONE");
        e.refused("part(2)=NONE");
    }

    private void release() {
        String quarantined = "set(2, 1)=10 frame(%1$d, 1, 0, 0)=3 frame(%1$d, 2, 0, 0)=5";
        e.sentence("Promise 5", "`port`: 0 to 7");
        for (int port = 0; port < 8; port++) {
            e.run(quarantined + " release(-1)=UNKNOWN release(8)=UNKNOWN release(%1$d)=30", port);
        }
        e.sentence("Promise 5", "Ends the quarantine of a port");
        e.run(quarantined + " frame(5, 1, 0, 0)=3 frame(5, 1, 0, 0)=5 port(4, 1)=0 count(6)=6 count(7)=2 release(4)=30"
                + " port(4, 1)=1 port(4, 2)=0 port(4, 3)=2 port(5, 1)=0 port(5, 2)=30 count(6)=7 count(7)=1 count(11)=2"
                + " where(1)=NONE frame(4, 3, 3, 0)=1 frame(5, 3, 3, 0)=0", 4);
        e.sentence("Promise 5", "This is an act");
        e.act("set(2, 1)=10 frame(4, 1, 0, 0)=3 frame(4, 1, 0, 0)=5", "release(4)");
        e.act(Edges.BUSY, "release(4)");
        e.sentence("Promise 5", "Returns for how many seconds it would have gone on");
        e.run(quarantined + " release(4)=30", 4);
        e.run(quarantined + " pass(1) release(4)=29", 4);
        e.run(quarantined, 4).seconds(29).calls("release(4)=1 release(4)=NONE");
        e.run(quarantined, 4).seconds(30).calls("release(4)=NONE");
        e.run("set(1, 1)=30 " + quarantined + " release(4)=1", 4);
        e.run("set(1, 600)=30 " + quarantined + " setPort(4, false)=7 release(4)=600 port(4, 1)=0", 4);
        e.sentence("Promise 5", "UNKNOWN;");
        for (String no : Edges.NO_PORTS) {
            e.refused("release(%s)=UNKNOWN", no);
        }
        e.sentence("Promise 5", "NONE if it is not in quarantine");
        e.run("release(0)=NONE release(7)=NONE setPort(0, false)=7 release(0)=NONE");
        e.run(quarantined + " release(3)=NONE release(5)=NONE release(4)=30 release(4)=NONE", 4);
        e.refused("release(7)=NONE");
        e.refused("release(2)=NONE");
    }

    private void set() {
        e.sentence("Promise 6", "BAD_VALUE;");
        e.sentence("Promise 6", "`what`: 0 to 3");
        e.run("set(-1, 2)=BAD_VALUE set(0, 2)=60 set(1, 2)=30 set(2, 2)=10 set(3, 2)=4 set(4, 2)=BAD_VALUE");
        for (String no : new String[] {"-1", "4", "MIN", "MAX"}) {
            e.refused("set(%s, 1)=BAD_VALUE", no);
        }
        e.sentence("Promise 6", "`value`: in its range");
        int[] most = {1000, 600, 50, 10};
        for (int what = 0; what < 4; what++) {
            for (String value : new String[] {"MIN", "-1", "0", "" + (most[what] + 1), "MAX"}) {
                e.refused("set(%d, %s)=BAD_VALUE", what, value);
            }
            e.run("set(%1$d, 1) set(%1$d, %2$d)=1 count(%1$d)=%2$d", what, most[what]);
        }
        e.sentence("Promise 6", "Sets a setting");
        e.run("set(0, 1)=60 set(1, 2)=30 set(2, 3)=10 set(3, 5)=4 count(0)=1 count(1)=2 count(2)=3 count(3)=5");
        e.sentence("Promise 6", "This is an act");
        for (int what = 0; what < 4; what++) {
            e.act("", "set(" + what + ", 1)");
            e.act(Edges.BUSY, "set(" + what + ", 7)");
        }
        e.sentence("Promise 6", "Returns the previous value");
        e.run("set(0, 1000)=60 set(0, 1)=1000 set(0, 60)=1 set(2, 50)=10 set(2, 10)=50");
        e.sentence("Promise 6", "NONE if it is so already");
        e.run("set(0, 60)=NONE set(1, 30)=NONE set(2, 10)=NONE set(3, 4)=NONE set(0, 61)=60 set(0, 61)=NONE"
                + " set(0, 60)=61 set(4, 4)=BAD_VALUE count(13)=2");
        e.refused("set(0, 40)=NONE");
        e.refused("set(3, 2)=NONE");
    }

    private void setAndWhatHasBegun() {
        e.sentence("Promise 6", "quarantines that have begun stay as long as they are");
        String quarantined = "set(2, 1)=10 set(1, 3)=30 frame(4, 1, 0, 0)=3 frame(4, 1, 0, 0)=5 ";
        e.run(quarantined + "set(1, 1)=3 port(4, 2)=3 pass(1) port(4, 2)=2 pass(1) port(4, 2)=1 pass(1) port(4, 2)=0"
                + " frame(4, 1, 0, 0)=3 frame(4, 1, 0, 0)=5 port(4, 2)=1 pass(1) port(4, 2)=0");
        e.run(quarantined + "set(1, 600)=3 port(4, 2)=3 pass(2) port(4, 2)=1 port(4, 1)=0 pass(1) port(4, 2)=0"
                + " port(4, 1)=1 frame(4, 1, 0, 0)=3 frame(4, 1, 0, 0)=5 port(4, 2)=600");
        e.sentence("Promise 6", "and entries that are too old then go when the next second passes");
        String old = "frame(2, 1, 1, 0)=1 pass(5)=0 ";
        e.run(old + "set(0, 1)=60 where(1)=2 count(5)=1 entry(0, 2)=5 pass(1)=0 where(1)=NONE count(5)=0");
        e.run(old + "set(0, 5)=60 where(1)=2 pass(1)=0 where(1)=NONE");
        e.run(old + "set(0, 6)=60 where(1)=2 pass(1)=0 where(1)=NONE");
        e.run(old + "set(0, 7)=60 where(1)=2 pass(1)=0 where(1)=2 pass(1)=0 where(1)=NONE");
        e.run(old + "set(0, 5)=60 frame(2, 1, 1, 0)=1 pass(1)=0 where(1)=2");
        e.run("set(0, 6)=60 " + old + "set(0, 8)=6 pass(1)=0 where(1)=2 pass(1)=0 where(1)=2 pass(1)=0 where(1)=NONE");
    }
}
