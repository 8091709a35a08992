/** The sentences of TEXTS and promises 10 to 12. */
final class EdgesOfTexts {
    private static final String TEXTS = "TEXTS";
    private static final String LONGEST =
            "10>*!0@0;11>*!1@1;12>*!2@2;13>*!3@3;14>*!0@4;15>*!0@5;16>*!0@6;17>10@7";
    /** As long as a text can be, and no frame of it fills a queue. */
    private static final String QUIET = "7>7@1;17>17@1;17>17@1;17>7@1" + ";7>7@1".repeat(7);
    /** The beginning of a text, and the characters that are allowed behind it. */
    private static final String[][] PLACES = {
        {"", "123456789"}, {"7", "0123456789>"}, {"70", ">"}, {"7>", "123456789*"}, {"7>8", "0123456789!@"},
        {"7>80", "!@"}, {"7>*", "!@"}, {"7>8!", "0123"}, {"7>*!", "0123"}, {"7>8!2", "@"}, {"7>8@", "01234567"},
        {"7>*!3@", "01234567"}, {"7>8@1", ";"}, {"7>8@1;", "123456789"},
    };

    private final Edges e;

    EdgesOfTexts(Edges edges) {
        e = edges;
    }

    void all() {
        length();
        frames();
        parts();
        addresses();
        faults();
        tooEarly();
        type();
        clearText();
        readFrames();
        readFramesWithFaults();
    }

    private Run text(String text) {
        return e.run("").text(text);
    }

    private void length() {
        e.sentence(TEXTS, "There is a text of at most 70 characters, empty at first");
        e.run("count(14)=0 clearText()=0 readFrames()=-100");
        text(LONGEST.substring(0, 68)).calls("count(14)=68 type(64)=69 count(14)=69 type(55)=70 count(14)=70"
                + " type(59)=NOT_POSSIBLE count(14)=70 readFrames()=8 type(49)=NOT_POSSIBLE readFrames()=8"
                + " clearText()=70 count(14)=0 type(49)=1");
    }

    private void frames() {
        e.sentence(TEXTS, "A text of frames is one or more frames, with \";\" between two");
        text("").calls("readFrames()=-100");
        text(";").calls("readFrames()=-100");
        for (int frames = 1; frames <= 11; frames++) {
            String all = ";7>8@1".repeat(frames).substring(1);
            text(all).calls("readFrames()=%d account(1, 0)=%d count(13)=1", frames, frames);
            text(";" + all).calls("readFrames()=-100 account(1, 0)=0");
            text(all + ";").calls("readFrames()=%d account(1, 0)=0", -100 - 6 * frames);
            text(all + ";;7>8@1").calls("readFrames()=%d", -100 - 6 * frames);
            text(all + "7>8@1").calls("readFrames()=%d", -100 - 6 * frames + 1);
            text(all + ",7>8@1").calls("readFrames()=%d", -100 - 6 * frames + 1);
            text(all + "; 7>8@1").calls("readFrames()=%d", -100 - 6 * frames);
        }
    }

    private void parts() {
        e.sentence(TEXTS, "A frame is: its source; \">\"; its destination, or \"*\" for all;");
        text("7>8@1").calls("readFrames()=1 queued(0, 0, 0)=7 queued(0, 0, 1)=8 queued(0, 0, 2)=0 account(1, 4)=1"
                + " where(7)=1");
        text("7>*@1").calls("readFrames()=1 queued(0, 0, 0)=7 queued(0, 0, 1)=0 queued(0, 0, 2)=0 account(1, 4)=1"
                + " where(7)=1");
        text("8>8@0;7>*@1;7>8@1").calls("readFrames()=3 account(1, 4)=1 account(1, 3)=1 queued(0, 0, 1)=0"
                + " queued(0, 1, 1)=8");
        e.sentence(TEXTS, "if its priority is not to be 0, \"!\" and its digit (0 to 3; \"!0\" can stand, too);");
        text("7>8!-1@1").calls("readFrames()=-104");
        text("7>8!/@1").calls("readFrames()=-104");
        for (int priority = 0; priority <= 3; priority++) {
            text("7>8!" + priority + "@1").calls("readFrames()=1 queued(0, 0, 2)=%d", priority);
            text("77>88!" + priority + "@1").calls("readFrames()=1 queued(0, 0, 2)=%d", priority);
            text("7>*!" + priority + "@1").calls("readFrames()=1 queued(0, 0, 2)=%d queued(0, 0, 1)=0", priority);
        }
        text("7>8!4@1").calls("readFrames()=-104");
        text("7>8!@1").calls("readFrames()=-104");
        text("7>8!00@1").calls("readFrames()=-105");
        text("7>8!3@1;7>8@1").calls("readFrames()=2 queued(0, 0, 2)=3 queued(0, 1, 2)=0");
        e.sentence(TEXTS, "\"@\"; the digit of the port at which it comes in (0 to 7)");
        text("7>8@/").calls("readFrames()=-104");
        for (int port = 0; port <= 7; port++) {
            text("7>8@" + port).calls("readFrames()=1 where(7)=%1$d account(%1$d, 0)=1 port(%1$d, 5)=0", port);
        }
        text("7>8@8").calls("readFrames()=-104");
        text("7>8@9").calls("readFrames()=-104");
        text("7>8@-1").calls("readFrames()=-104");
        text("7>8@07").calls("readFrames()=-105");
    }

    private void addresses() {
        e.sentence(TEXTS, "Addresses are written with one or two digits, without zeros in front, and are at least 1");
        for (int address = 1; address <= 99; address++) {
            text(address + ">*@1").calls("readFrames()=1 where(%1$d)=1 count(5)=1 queued(0, 0, 0)=%1$d", address);
            int other = address == 5 ? 6 : 5;
            text(other + ">" + address + "@1").calls("readFrames()=1 queued(0, 0, 1)=%d", address);
        }
        for (String no : new String[] {"0", "00", "01", "09", "001", "010", "-1", "+1"}) {
            text(no + ">*@1").calls("readFrames()=-100");
            text("5>" + no + "@1").calls("readFrames()=-102");
        }
        for (String no : new String[] {"100", "990", "111", "99 "}) {
            text(no + ">*@1").calls("readFrames()=-102");
            text("5>" + no + "@1").calls("readFrames()=-104");
        }
    }

    private void faults() {
        e.sentence(TEXTS, "The fault of the text is the index, from 0, of the first character that is not allowed"
                + " at its place");
        Faults faults = new Faults(e);
        for (String[] place : PLACES) {
            for (int sign = 0; sign <= Character.MAX_VALUE; sign++) {
                faults.behind(place[0], (char) sign, place[1].indexOf(sign) >= 0, "");
            }
            for (char sign = 0; sign <= 300; sign++) {
                boolean allowed = place[1].indexOf(sign) >= 0;
                faults.behind("23>45!1@6;" + place[0], sign, allowed, "");
                faults.behind("7>8@1;".repeat(10) + place[0], sign, allowed, "");
                if (!allowed) {
                    faults.behind(place[0], sign, false, ";");
                    faults.behind(place[0], sign, false, "7>8@1;;");
                }
            }
        }
    }

    /** Many texts need many objects, as each of them is for 512 calls. */
    private static final class Faults {
        private final Edges e;
        private LearningRepeater x = new LearningRepeater();
        private int calls = 0;

        Faults(Edges edges) {
            e = edges;
        }

        /** Behind the beginning the character is allowed, or it is the fault, whatever comes then. */
        void behind(String beginning, char sign, boolean allowed, String then) {
            String text = beginning + sign + then;
            int due = -100 - beginning.length() - (allowed ? 1 : 0);
            if (allowed && beginning.endsWith("@")) {
                due = (int) text.chars().filter(c -> c == '@').count();
            }
            calls += text.length() + 2;
            if (calls > 512 || due > 0) {
                x = new LearningRepeater();
                calls = text.length() + 2;
            }
            x.clearText();
            Checks.type(x, text);
            e.due("readFrames() of " + beginning + " and the character " + (int) sign, x.readFrames(), due);
            if (due > 0) {
                x = new LearningRepeater();
                calls = 0;
            }
        }
    }

    private void tooEarly() {
        e.sentence(TEXTS, "or the length of the text if it ends too early (the empty text does)");
        for (String whole : new String[] {LONGEST, "1>2@0;1>23@1;12>3@2;99>*@3;9>9!0@4;90>90!3@5"}) {
            for (int length = 0; length <= whole.length(); length++) {
                String text = whole.substring(0, length);
                boolean ends = text.matches(".*@.");
                int frames = text.split(";").length;
                text(text).calls("readFrames()=%d count(13)=%d", ends ? frames : -100 - length, ends ? 1 : 0);
            }
        }
    }

    private void type() {
        e.sentence("Promise 10", "Types a character behind the text");
        e.run("type(55)=1 type(62)=2 type(42)=3 type(64)=4 type(49)=5 readFrames()=1 queued(0, 0, 0)=7 account(1, 0)=1"
                + " count(13)=1 type(59)=6 readFrames()=-106 count(13)=1");
        e.sentence("Promise 10", "`character`: any character");
        e.run("type(0)=1 type(127)=2 type(128)=3 type(255)=4 type(256)=5 type(65535)=6 type(10)=7 count(14)=7"
                + " count(13)=0 readFrames()=-100 clearText()=7");
        e.sentence("Promise 10", "Returns the length of the text then");
        e.sentence("Promise 10", "NOT_POSSIBLE if it has 70 characters");
        Run run = e.run("");
        for (int length = 1; length <= 70; length++) {
            run.calls("type(%d)=%d", length == 1 ? 0 : 65535, length);
        }
        run.calls("type(49)=NOT_POSSIBLE type(0)=NOT_POSSIBLE count(14)=70 clearText()=70 type(49)=1");
        for (int sign : new int[] {0, '1', ';', 65535}) {
            e.changesNothing(QUIET, Edges.BUSY, "type(" + sign + ")=NOT_POSSIBLE");
            e.changesNothing(QUIET, "", "type(" + sign + ")=NOT_POSSIBLE");
        }
    }

    private void clearText() {
        e.sentence("Promise 11", "Empties the text");
        text("7>8@1").calls("clearText()=5 count(14)=0 readFrames()=-100 type(49)=1 readFrames()=-101 clearText()=1")
                .text("9>*@3").calls("readFrames()=1 where(9)=3 where(7)=NONE count(13)=1");
        e.sentence("Promise 11", "Returns the length that it had");
        for (int length = 0; length <= 70; length++) {
            text(LONGEST.substring(0, length)).calls("count(14)=%1$d clearText()=%1$d clearText()=0 count(14)=0"
                    + " count(13)=0", length);
        }
    }

    private void readFrames() {
        e.sentence("Promise 12", "Lets all frames of the text, which stays, come in, in their order");
        text("7>8@1;8>7!2@2").calls("readFrames()=2 account(1, 4)=1 account(2, 3)=1 where(7)=1 where(8)=2"
                + " queued(1, 0, 2)=2 count(14)=13 readFrames()=2 account(1, 3)=1 account(2, 3)=2 count(14)=13");
        text("8>7!2@2;7>8@1").calls("readFrames()=2 account(2, 4)=1 account(1, 3)=1 queued(1, 0, 3)=1");
        text("7>*@0;7>*@1;7>*@2;7>*@3;7>*@4").calls("readFrames()=5 where(7)=4 port(3, 3)=1 port(3, 1)=0 port(2, 1)=1"
                + " account(3, 5)=1 account(4, 4)=1");
        e.sentence("Promise 12", "This is one act");
        text("7>8@1;8>7!2@2;9>*@3").calls("count(13)=0 readFrames()=3 count(13)=1 count(12)=15 undo()=0 count(12)=0"
                + " count(5)=0 account(1, 0)=0 count(14)=19 readFrames()=3 count(13)=1");
        e.act("", "readFrames()");
        e.act(Edges.BUSY, "readFrames()");
        e.sentence("Promise 12", "Returns how many of them are not turned away;");
        text("7>8@1").calls("setPort(1, false)=7 readFrames()=0 account(1, 1)=1 count(13)=2 setPort(1, true)=8"
                + " readFrames()=1");
        text("1>2@1;1>2@2;1>2@3").calls("setPort(2, false)=7 readFrames()=2 setPort(3, false)=6 readFrames()=1"
                + " setPort(1, false)=5 readFrames()=0 count(13)=4");
        text("7>*@1;7>*@1;7>*@1").calls("set(2, 1)=10 readFrames()=2 account(1, 4)=1 account(1, 5)=1 account(1, 1)=1");
        text("7>7@1;8>8@2;7>8@1").calls("readFrames()=3 account(1, 2)=1 account(1, 3)=1 setPort(2, false)=7"
                + " clearText()=17")
                .text("7>8@1").calls("readFrames()=1 account(1, 6)=1");
    }

    private void readFramesWithFaults() {
        e.sentence("Promise 12", "-100 minus the fault of the text if it has one (which is an error)");
        text("").calls("readFrames()=-100");
        text("7>8@1;").calls("readFrames()=-106");
        text("7>8@1;".repeat(11) + "7>8").calls("readFrames()=-169");
        text("7>8@1;".repeat(11) + "7>8@").calls("readFrames()=-170");
        text("7>8@1;".repeat(11) + "7>8x").calls("readFrames()=-169");
        text("7>8@1;".repeat(11) + "7>80").calls("readFrames()=-170");
        String[] faulty = {"", "0", "7>8@1;", "7>8@1;9>*@8", "7>8@1;8>7@2;9", "7>8@1x", LONGEST.substring(0, 69)};
        for (String text : faulty) {
            e.changesNothing(text, Edges.BUSY, "readFrames()");
            e.changesNothing(text, "", "readFrames()");
        }
    }
}
