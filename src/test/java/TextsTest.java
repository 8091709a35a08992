/** Promises 10 to 12: type, clearText and readFrames. */
public final class TextsTest {
    private static final int NOT_POSSIBLE = LearningRepeater.NOT_POSSIBLE;
    private static final int NONE = LearningRepeater.NONE;

    private static final Checks checks = new Checks("TextsTest");

    public static void main(String[] args) {
        type();
        clearText();
        reads();
        readsTheLongest();
        readsInOrder();
        readingIsOneAct();
        faults();
        faultsChangeNothing();
        checks.end();
    }

    private static void type() {
        checks.promise("promise 10");
        LearningRepeater x = new LearningRepeater();
        checks.due("type('1')", x.type('1'), 1);
        checks.due("type(0)", x.type((char) 0), 2);
        checks.due("type(65535)", x.type((char) 65535), 3);
        checks.due("count(13)", x.count(13), 0);
        for (int length = 4; length <= 70; length++) {
            checks.due("type('x')", x.type('x'), length);
        }
        checks.due("type('x') at 70 characters", x.type('x'), NOT_POSSIBLE);
        checks.due("count(14)", x.count(14), 70);
        checks.due("clearText()", x.clearText(), 70);
        checks.due("type('x')", x.type('x'), 1);
        checks.refused("type('1') behind 70 characters", y -> Checks.type(y, "1>2@0;".repeat(11) + "1>2@"),
                y -> y.type('1'), NOT_POSSIBLE);
        checks.due("undo()", x.undo(), NONE);
    }

    private static void clearText() {
        checks.promise("promise 11");
        LearningRepeater x = new LearningRepeater();
        checks.due("clearText()", x.clearText(), 0);
        Checks.type(x, "1>2@0");
        checks.due("clearText()", x.clearText(), 5);
        checks.due("count(14)", x.count(14), 0);
        checks.due("clearText()", x.clearText(), 0);
        checks.due("count(13)", x.count(13), 0);
        checks.due("readFrames()", x.readFrames(), -100);
        Checks.type(x, "1");
        checks.due("readFrames(), as nothing of the former text is left", x.readFrames(), -101);
    }

    private static void reads() {
        checks.promise("promise 12");
        LearningRepeater x = new LearningRepeater();
        Checks.type(x, "99>*!3@7");
        checks.due("readFrames()", x.readFrames(), 1);
        checks.due("where(99)", x.where(99), 7);
        checks.due("queued(0, 0, 0)", x.queued(0, 0, 0), 99);
        checks.due("queued(0, 0, 1)", x.queued(0, 0, 1), 0);
        checks.due("queued(0, 0, 2)", x.queued(0, 0, 2), 3);
        checks.due("account(7, 4)", x.account(7, 4), 1);
        checks.due("count(14), as the text stays", x.count(14), 8);
        checks.due("readFrames()", x.readFrames(), 1);
        x.clearText();
        Checks.type(x, "10>99@0");
        checks.due("readFrames()", x.readFrames(), 1);
        checks.due("where(10)", x.where(10), 0);
        checks.due("queued(7, 0, 0)", x.queued(7, 0, 0), 10);
        checks.due("queued(7, 0, 1)", x.queued(7, 0, 1), 99);
        checks.due("queued(7, 0, 2)", x.queued(7, 0, 2), 0);
        x.clearText();
        Checks.type(x, "10>99!0@0;10>99!1@0;10>9!2@0");
        checks.due("readFrames()", x.readFrames(), 3);
        checks.due("queued(7, 0, 2)", x.queued(7, 0, 2), 2);
        checks.due("queued(7, 0, 1)", x.queued(7, 0, 1), 9);
        checks.due("queued(7, 1, 2)", x.queued(7, 1, 2), 1);
        checks.due("queued(7, 3, 2)", x.queued(7, 3, 2), 0);
        checks.due("port(7, 5)", x.port(7, 5), 4);
    }

    private static void readsTheLongest() {
        checks.promise("promise 12");
        LearningRepeater x = new LearningRepeater();
        checks.due("the length", Checks.type(x, "1>1@0;2>1@0;3>1@0;4>1@0;5>1@0;6>1@0;7>1@0;8>1@0;9>1@0;10>12@0;11>1@0"), 68);
        checks.due("readFrames() of eleven frames", x.readFrames(), 11);
        checks.due("count(5)", x.count(5), 11);
        x.clearText();
        checks.due("the length", Checks.type(x, "10>*!0@0;11>*!1@1;12>*!2@2;13>*!3@3;14>*!0@4;15>*!0@5;16>*!0@6;17>10@7"), 70);
        checks.due("readFrames() of 70 characters", x.readFrames(), 8);
        checks.due("where(17)", x.where(17), 7);
        checks.due("where(16)", x.where(16), 6);
    }

    private static void readsInOrder() {
        checks.promise("promise 12");
        LearningRepeater x = new LearningRepeater();
        x.setPort(5, false);
        Checks.type(x, "1>2@5;1>2@0;2>1@1;1>2@2;1>2@0;1>2@3;1>2@3;1>2@4");
        checks.due("readFrames() with two frames turned away", x.readFrames(), 6);
        checks.due("account(5, 1)", x.account(5, 1), 1);
        checks.due("account(3, 5)", x.account(3, 5), 1);
        checks.due("account(3, 1)", x.account(3, 1), 1);
        checks.due("port(3, 3)", x.port(3, 3), 1);
        checks.due("where(1)", x.where(1), 4);
        checks.due("where(2)", x.where(2), 1);
        x.setPort(4, false);
        x.clearText();
        Checks.type(x, "1>2@4;1>2@5");
        int states = x.count(13);
        checks.due("readFrames() with all turned away", x.readFrames(), 0);
        checks.due("count(13)", x.count(13), states + 1);
    }

    private static void readingIsOneAct() {
        checks.promise("promise 12");
        LearningRepeater x = new LearningRepeater();
        Checks.type(x, "1>2@0;2>1@1;3>*@2");
        checks.due("readFrames()", x.readFrames(), 3);
        checks.due("count(13)", x.count(13), 1);
        checks.due("count(12)", x.count(12), 15);
        checks.due("undo()", x.undo(), 0);
        checks.due("count(14), as the text is no part of a state", x.count(14), 17);
        checks.due("count(12)", x.count(12), 0);
        checks.due("count(5)", x.count(5), 0);
        checks.due("readFrames()", x.readFrames(), 3);
    }

    private static void fault(String text, int index) {
        LearningRepeater x = new LearningRepeater();
        Checks.type(x, text);
        checks.due("readFrames() of " + text, x.readFrames(), -100 - index);
        checks.due("count(13) after " + text, x.count(13), 0);
        checks.due("count(10) after " + text, x.count(10), 0);
    }

    private static void faults() {
        checks.promise("promise 12, faults");
        fault("", 0);
        fault("0", 0);
        fault("0>1@0", 0);
        fault("01>1@0", 0);
        fault(";", 0);
        fault("*>1@0", 0);
        fault(" 1>1@0", 0);
        fault("x", 0);
        fault(":", 0);
        fault("/", 0);
        fault("1:", 1);
        fault("1/", 1);
        fault("1>:", 2);
        fault("1>2:", 3);
        fault("1", 1);
        fault("12", 2);
        fault("123>1@0", 2);
        fault("1;", 1);
        fault("1@", 1);
        fault("1>", 2);
        fault("1>0@0", 2);
        fault("1>01@0", 2);
        fault("1>@0", 2);
        fault("1>!1@0", 2);
        fault("1>>", 2);
        fault("1>2", 3);
        fault("1>23", 4);
        fault("1>234@0", 4);
        fault("1>2;", 3);
        fault("1>2*", 3);
        fault("1>*", 3);
        fault("1>**", 3);
        fault("1>*2@0", 3);
        fault("1>2!", 4);
        fault("1>2!4@0", 4);
        fault("1>2!@0", 4);
        fault("1>2!-", 4);
        fault("1>2!3", 5);
        fault("1>2!33@0", 5);
        fault("1>2!3!3@0", 5);
        fault("1>2!3;", 5);
        fault("1>2@", 4);
        fault("1>2@8", 4);
        fault("1>2@9", 4);
        fault("1>2@/", 4);
        fault("1>2@;", 4);
        fault("1>2@0@", 5);
        fault("1>2@00", 5);
        fault("1>2@0!1", 5);
        fault("1>2@0 ", 5);
        fault("1>2@0;", 6);
        fault("1>2@0;;", 6);
        fault("1>2@0;0", 6);
        fault("1>2@0;1", 7);
        fault("12>34!3@7;98>*!0@0;5>6@8", 23);
        fault("1>2@0;".repeat(11), 66);
        fault("1>2@0;".repeat(11) + "1>2@", 70);
        fault("1>2@0;".repeat(11) + "1>2x", 69);
        fault("1>2" + (char) ('@' + 256) + "0", 3);
        fault("" + (char) ('1' + 256), 0);
        fault("1>2@" + (char) 65535, 4);
        fault("" + (char) 0, 0);
        fault("1>" + (char) 0x0661, 2);
    }

    private static void faultsChangeNothing() {
        checks.promise("promise 12, faults");
        checks.refused("readFrames() with a fault in the last frame", x -> {
            x.join(0, 1);
            x.frame(0, 7, 0, 0);
            Checks.type(x, "1>2@0;2>1@1;3>4@");
        }, x -> x.readFrames(), -116);
    }
}
