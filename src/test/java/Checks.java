import java.util.function.Consumer;
import java.util.function.ToIntFunction;

/** What the tests have in common: they count the answers that are not due, and print them. */
final class Checks {
    private static final int MOST_PRINTED = 40;

    private final String test;
    private int made = 0;
    private int wrong = 0;
    private String promise = "";

    Checks(String test) {
        this.test = test;
    }

    void promise(String name) {
        promise = name;
    }

    void due(String call, long got, long want) {
        made++;
        if (got != want) {
            tell(call + " answered " + got + ", due is " + want);
        }
    }

    void same(String what, String got, String want) {
        made++;
        if (!got.equals(want)) {
            tell(what + "\n  is     " + got + "\n  due is " + want);
        }
    }

    private void tell(String fault) {
        wrong++;
        if (wrong <= MOST_PRINTED) {
            System.out.println(test + ", " + promise + ": " + fault);
        }
    }

    int made() {
        return made;
    }

    /** The call answers what is due, and all that is told stays as it is without the call. */
    void refused(String call, Consumer<LearningRepeater> before, ToIntFunction<LearningRepeater> tried, int want) {
        LearningRepeater without = new LearningRepeater();
        before.accept(without);
        LearningRepeater with = new LearningRepeater();
        before.accept(with);
        due(call, tried.applyAsInt(with), want);
        same("what is told after " + call, told(with), told(without));
    }

    static String told(LearningRepeater x) {
        return new Told(x).all();
    }

    static String toldButHistory(LearningRepeater x) {
        return new Told(x).butHistory();
    }

    /** Types the text and answers the length that is told last. */
    static int type(LearningRepeater x, String text) {
        int length = 0;
        for (int k = 0; k < text.length(); k++) {
            length = x.type(text.charAt(k));
        }
        return length;
    }

    void end() {
        System.out.println(test + ": " + made + " checks, " + wrong + " wrong");
        if (wrong != 0 || made == 0) {
            System.exit(1);
        }
    }
}
