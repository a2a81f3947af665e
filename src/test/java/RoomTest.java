import com.sun.management.ThreadMXBean;
import java.lang.management.ManagementFactory;

/** That 512 calls never lack room, that later ones never fail, and how little a run makes. */
public final class RoomTest {
    private static final ThreadMXBean THREADS = (ThreadMXBean) ManagementFactory.getThreadMXBean();

    public static void main(String[] args) {
        mostKept();
        mostMade();
        redoneOften();
        farBeyond();
        whatIsMade();
        Session.finish();
    }

    /** A list whose words make as many objects as words can: two each. */
    private static String costly(int groups, char prefix) {
        StringBuilder list = new StringBuilder();
        for (int i = 0; i < groups; i++) {
            list.append("'".repeat(35)).append(prefix).append(i);
        }
        return "'(" + list + ")";
    }

    private static void mostKept() {
        Session s = new Session();
        for (int i = 0; i < 4; i++) {
            char prefix = (char) ('a' + i);
            s.tells("(defun " + prefix + " () (car " + costly(27, prefix) + "))", "");
        }
        s.tells("(defun e () (cdr " + costly(15, 'e') + "))", "");
        s.tells("(eval (cons (a) (d)))", "(" + "'".repeat(35) + "a0 " + "quote " + "'".repeat(34) + "d0)");
        s.tells("(eval (car (e)))", "'".repeat(35) + "e1");
    }

    /** More objects than could ever be held at once, so each run must forget those of the last. */
    private static void mostMade() {
        Session s = new Session();
        s.tells("(defun f (n x) (if (equal n 0) x (f (- n 1) (cons n x))))", "");
        s.tells("(defun g (x) (f 9 x))", "");
        for (int i = 0; i < 90; i++) {
            s.tells("(eval (car (f 140 (f 49 'a" + i + "))))", "1");
            Session.same("steps", s.machine.steps(), 1 + 5 * (140 + 49) + 3 + 3);
        }
        s.tells("(map g (1 2))", "((1 2 3 4 5 6 7 8 9 . 1) (1 2 3 4 5 6 7 8 9 . 2))");
        s.tells("(show g)", "(defun g (x) (f 9 x))");
    }

    private static void redoneOften() {
        Session s = new Session();
        s.tells("(defun f () 'a)", "");
        for (int i = 0; i < 60; i++) {
            s.tells("(redo f () '(" + i + " b" + i + "))", "");
            s.tells("(eval (f))", "(" + i + " b" + i + ")");
        }
    }

    /** What calls behind the 512th answer is free, but they must answer. */
    private static void farBeyond() {
        Session s = new Session();
        LispMachine x = s.machine;
        int most = 0;
        for (int i = 0; i < 3000; i++) {
            s.text("(defun f" + i + " (x) '(" + i + " " + i + "a " + "'".repeat(30) + "z" + i + "))");
            x.run();
            s.text(i % 2 == 0 ? "(undo)" : "(redo f1 (x) (cons x '(" + i + " b" + i + ")))");
            x.run();
            s.text("(map f1 (" + "1 2 ".repeat(i % 60) + "))");
            x.run();
            s.text("(show f" + i % 50 + ")");
            x.run();
            most = Math.max(most, x.functions());
        }
        Session.same("functions are at most 40", most <= 40, true);
        s.text("(eval 1)");
        int answer = x.run();
        Session.same("an answer far beyond", answer == 0 || answer == 8, true);
    }

    /** The room of a run has 7.3 million fields and elements: an object may take a small part. */
    private static void whatIsMade() {
        new LispMachine();
        long before = made();
        LispMachine x = new LispMachine();
        long forOne = made() - before;
        Session.same("a new object has less than 120000 bytes: " + forOne, forOne < 120000, true);
        for (int i = 0; i < 3; i++) {
            deepRun(x);
        }
        before = made();
        for (int i = 0; i < 100; i++) {
            deepRun(x);
        }
        long forRuns = made() - before;
        Session.same("runs make nothing that stays: " + forRuns, forRuns < 20000, true);
    }

    private static void deepRun(LispMachine x) {
        x.feed(0x28646566, 0x756E2066, 0x20287829, 0x20286620, 0x78292920);
        x.end(20);
        x.run();
        x.feed(0x28657661, 0x6C202866, 0x20312929, 0, 0);
        x.end(12);
        x.run();
    }

    private static long made() {
        return THREADS.getThreadAllocatedBytes(Thread.currentThread().getId());
    }
}
