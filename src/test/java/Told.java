/** All that an object tells, and how many calls that needs. */
final class Told {
    private final LearningRepeater x;
    private final StringBuilder all = new StringBuilder();
    private int calls = 0;

    Told(LearningRepeater x) {
        this.x = x;
        int[] counts = new int[15];
        for (int what = 0; what < counts.length; what++) {
            counts[what] = tell(x.count(what));
        }
        all.append('l');
        tell(x.loops());
        for (int port = 0; port < 8; port++) {
            port(port);
        }
        for (int entry = 0; entry < counts[5]; entry++) {
            all.append("| e ");
            for (int what = 0; what <= 3; what++) {
                tell(x.entry(entry, what));
            }
        }
    }

    private int tell(int answer) {
        calls++;
        all.append(answer).append(' ');
        return answer;
    }

    private void port(int port) {
        all.append("| p").append(port).append(' ');
        int[] answers = new int[8];
        for (int what = 0; what < answers.length; what++) {
            answers[what] = tell(x.port(port, what));
        }
        all.append("a ");
        for (int what = 0; what <= 10; what++) {
            tell(x.account(port, what));
        }
        for (int place = 0; place < answers[5]; place++) {
            all.append("q ");
            for (int what = 0; what <= 3; what++) {
                tell(x.queued(port, place, what));
            }
        }
    }

    int calls() {
        return calls;
    }

    String all() {
        return all.toString().strip();
    }

    /** But for the number of states in the history. */
    String butHistory() {
        String[] words = all().split(" ");
        words[13] = "-";
        return String.join(" ", words);
    }
}
