/** One LispMachine that is told whole texts, and the answers of it that were not as due. */
final class Session {
    private static final int MOST_CALLS = 512;
    private static int checks = 0;
    private static int wrong = 0;
    private static String sentence = "";

    final LispMachine machine = new LispMachine();
    private int calls = 0;

    /** Feeds a text, twenty characters at a time. */
    void text(String text) {
        for (int from = 0; from < text.length(); from += 20) {
            String part = text.substring(from, Math.min(from + 20, text.length()));
            int[] words = words(part);
            machine.feed(words[0], words[1], words[2], words[3], words[4]);
            machine.end(part.length());
            calls += 2;
        }
    }

    static int[] words(String part) {
        int[] words = new int[5];
        for (int i = 0; i < part.length() && i < 20; i++) {
            words[i / 4] |= (part.charAt(i) & 255) << (24 - i % 4 * 8);
        }
        return words;
    }

    int run(String text) {
        text(text);
        calls++;
        // letter() does not count here: it changes nothing.
        if (calls > MOST_CALLS) {
            throw new IllegalStateException("a test uses one object for more than 512 calls");
        }
        return machine.run();
    }

    String out() {
        StringBuilder out = new StringBuilder();
        for (int k = 0; k < machine.size(); k++) {
            out.append((char) machine.letter(k));
        }
        return out.toString();
    }

    /** The command is done and tells this. */
    void tells(String text, String out) {
        same(text + " answers", run(text), 0);
        same(text + " tells", out(), out);
        noFaults(text);
    }

    /** The command is refused with this answer, tells nothing and makes no steps. */
    void refuses(String text, int answer) {
        int before = machine.functions();
        same(text + " answers", run(text), answer);
        same(text + " tells", out(), "");
        same(text + " functions", machine.functions(), before);
        same(text + " steps", machine.steps(), 0);
        noFaults(text);
    }

    /** The text has a fault of reading at this place. */
    void misreads(String text, int fault, int place) {
        same(text + " answers", run(text), 1);
        same(text + " fault", machine.fault(0), fault);
        same(text + " place", machine.fault(1), place);
        same(text + " fault of work", machine.fault(2), 0);
        same(text + " tells", out(), "");
        same(text + " steps", machine.steps(), 0);
    }

    /** The command has a fault of work behind so many steps. */
    void fails(String text, int fault, int steps) {
        same(text + " answers", run(text), 4);
        same(text + " fault of work", machine.fault(2), fault);
        same(text + " steps", machine.steps(), steps);
        same(text + " tells", out(), "");
        same(text + " fault of reading", machine.fault(0), 0);
        same(text + " place", machine.fault(1), LispMachine.NONE);
    }

    private void noFaults(String text) {
        same(text + " fault of reading", machine.fault(0), 0);
        same(text + " place", machine.fault(1), LispMachine.NONE);
        same(text + " fault of work", machine.fault(2), 0);
    }

    /** The sentence of the document that the checks to come belong to. */
    static void about(String itsSentence) {
        sentence = itsSentence;
    }

    static void same(String what, Object got, Object due) {
        checks++;
        if (!got.equals(due)) {
            wrong++;
            if (!sentence.isEmpty()) {
                System.out.println("\"" + sentence + "\"");
            }
            System.out.println(shortened(what) + ": " + shortened(got.toString()) + ", due is " + shortened(due.toString()));
        }
    }

    /** Long texts are told by their beginning and end, so that the rows can be read. */
    private static String shortened(String text) {
        int length = text.length();
        return length <= 200 ? text : text.substring(0, 90) + " .. " + text.substring(length - 90);
    }

    static void finish() {
        System.out.println(checks + " checks, " + wrong + " wrong");
        if (wrong != 0) {
            System.exit(1);
        }
    }
}
