import java.util.Arrays;
import java.util.Random;

/**
 * Any call with any arguments in any state: 512 random calls on an object, many with the least and
 * the greatest ints, each answer held against Model and against a plain telling of feed and end.
 */
public final class AnyCallsTest {
    private static final int NONE = LispMachine.NONE;
    private static final int RUNS = 1500;
    private static final int CALLS = 512;
    private static final int[] ODD = {Integer.MIN_VALUE, Integer.MIN_VALUE + 1, -1001, -21, -2, -1, 0, 1, 2, 3, 19, 20,
        21, 299, 300, 999, 1000, 1001, 1999, 2000, 2001, 2999, 3000, 3001, Integer.MAX_VALUE - 1, Integer.MAX_VALUE};
    // At most twenty characters each, so that one feed and one end bring a whole text or a part.
    private static final String[] TEXTS = {"(eval '(a . b))", "(defun f (x) (f x))", "(eval (f 1))", "(map f (1 2))",
        "(undo)", "(show f)", "(redo f (x) 'x)", "(redo f (x) (g x))", "(defun g (x) (+ x 1))", "(eval (g 1))",
        "(defun h () 5)", "(eval (h))", "(eval 'abcdefghijk)", "(eval (- 1 2))", "(((((((((((((((((((", "''''''''''",
        "))))))))))", "a a a a a a a a a a ", "1 2 3 4 5 6 7 8 9 0 ", "                    ", "(with ((x 9)) x)",
        "(eval '", "(+ 1 2)", "4611686018427387903 ", "4611686018427387904 ", "abcdefghijkl", ";;;;;;", "\n", "#", ""};

    private final Random random;
    private final LispMachine machine = new LispMachine();
    private final Model model = new Model();
    private final StringBuilder text = new StringBuilder();
    private String waiting = "\0".repeat(20);
    private int calls = 0;
    private static final int[] answers = new int[9];

    private AnyCallsTest(long seed) {
        random = new Random(seed);
    }

    public static void main(String[] args) {
        for (int seed = 0; seed < RUNS; seed++) {
            AnyCallsTest test = new AnyCallsTest(seed);
            // Some objects fill their text, others run often.
            int runs = seed % 3 == 0 ? 200 : 8;
            // The longest turn makes four calls.
            while (test.calls <= CALLS - 4) {
                test.oneTurn("run " + seed + " call " + test.calls, runs);
            }
        }
        for (int answer : new int[] {0, 1, 2, 3, 4}) {
            Session.same("answer " + answer + " was reached", answers[answer] > 0, true);
        }
        System.out.println("answers " + Arrays.toString(answers));
        Session.finish();
    }

    private int odd() {
        return random.nextInt(8) == 0 ? random.nextInt() : ODD[random.nextInt(ODD.length)];
    }

    private void oneTurn(String when, int runs) {
        if (random.nextInt(runs) == 0) {
            run(when);
            if (random.nextInt(3) != 0) {
                text(when);
                run(when);
            }
            return;
        }
        switch (random.nextInt(12)) {
            case 0:
                feed(odd(), odd(), odd(), odd(), odd());
                break;
            case 1:
                end(when, odd());
                break;
            case 2:
                fuel(when, odd());
                break;
            case 3:
                fault(when, odd());
                break;
            case 4:
                letter(when, odd());
                break;
            case 5:
                letter(when, random.nextInt(20));
                break;
            case 6:
                Session.same(when + " steps()", machine.steps(), model.steps);
                Session.same(when + " functions()", machine.functions(), model.functions.size());
                Session.same(when + " size()", machine.size(), model.out.length());
                calls += 3;
                break;
            default:
                text(when);
        }
    }

    private void text(String when) {
        String part = TEXTS[random.nextInt(TEXTS.length)];
        int[] words = Session.words(part);
        feed(words[0], words[1], words[2], words[3], words[4]);
        end(when, part.length());
    }

    private void run(String when) {
        calls++;
        int due = model.run(text.toString());
        answers[due]++;
        Session.same(when + " run() of " + text, machine.run(), due);
        text.setLength(0);
    }

    private void feed(int... words) {
        calls++;
        machine.feed(words[0], words[1], words[2], words[3], words[4]);
        StringBuilder bytes = new StringBuilder();
        for (int word : words) {
            String hex = String.format("%08x", word);
            for (int i = 0; i < 8; i += 2) {
                bytes.append((char) Integer.parseInt(hex.substring(i, i + 2), 16));
            }
        }
        waiting = bytes.toString();
    }

    private void end(String when, int n) {
        calls++;
        boolean refused = n < 0 || n > 20 || text.length() + n > 3000;
        if (!refused) {
            text.append(waiting, 0, n);
            waiting = "\0".repeat(20);
        }
        Session.same(when + " end(" + n + ")", machine.end(n), refused ? NONE : text.length());
    }

    private void fuel(String when, int n) {
        calls++;
        boolean refused = n < 1 || n > 1000;
        Session.same(when + " fuel(" + n + ")", machine.fuel(n), refused ? NONE : model.fuel);
        model.fuel = refused ? model.fuel : n;
    }

    private void fault(String when, int what) {
        calls++;
        int due = what == 0 ? model.fault : what == 1 ? model.place : what == 2 ? model.work : NONE;
        Session.same(when + " fault(" + what + ")", machine.fault(what), due);
    }

    private void letter(String when, int k) {
        calls++;
        int due = k >= 0 && k < model.out.length() ? model.out.charAt(k) : NONE;
        Session.same(when + " letter(" + k + ")", machine.letter(k), due);
    }
}
