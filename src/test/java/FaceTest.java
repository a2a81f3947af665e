import java.lang.reflect.Constructor;
import java.lang.reflect.Field;
import java.lang.reflect.Method;
import java.lang.reflect.Modifier;
import java.util.Set;
import java.util.TreeSet;

/** Promises 1 to 10, each over the face; the terms that they use have tests of their own. */
public final class FaceTest {
    private static final int NONE = LispMachine.NONE;

    public static void main(String[] args) {
        face();
        newObject();
        feed();
        end();
        fuel();
        run();
        fault();
        steps();
        functions();
        sizeAndLetter();
        anyArguments();
        Session.finish();
    }

    private static void face() {
        Session.same("NONE", NONE, -1);
        Set<String> members = new TreeSet<>();
        for (Method method : LispMachine.class.getDeclaredMethods()) {
            if (!Modifier.isPrivate(method.getModifiers()) && !method.isSynthetic()) {
                members.add(method.getReturnType() + " " + method.getName() + method.getParameterCount());
            }
        }
        for (Field field : LispMachine.class.getDeclaredFields()) {
            if (!Modifier.isPrivate(field.getModifiers())) {
                members.add(field.getType() + " " + field.getName());
            }
        }
        for (Constructor<?> constructor : LispMachine.class.getDeclaredConstructors()) {
            members.add("new" + constructor.getParameterCount());
        }
        Session.same("the face", members.toString(), "[int NONE, int end1, int fault1, int fuel1, "
                + "int functions0, int letter1, int run0, int size0, int steps0, new0, void feed5]");
    }

    private static void newObject() {
        LispMachine x = new LispMachine();
        Session.same("functions of a new object", x.functions(), 0);
        Session.same("size of a new object", x.size(), 0);
        Session.same("letter of a new object", x.letter(0), NONE);
        Session.same("steps of a new object", x.steps(), 0);
        Session.same("fault 0 of a new object", x.fault(0), 0);
        Session.same("fault 1 of a new object", x.fault(1), NONE);
        Session.same("fault 2 of a new object", x.fault(2), 0);
        Session.same("the text of a new object", x.end(0), 0);
        Session.same("the fuel of a new object", x.fuel(5), 1000);
        Session first = new Session();
        first.tells("(defun f () 1)", "");
        new Session().refuses("(show f)", 3);
    }

    private static void feed() {
        Session s = new Session();
        // The highest byte of each comes first, and the latest feed alone counts.
        s.machine.feed(0x28283A3A, -1, -1, -1, -1);
        s.machine.feed(0x28657661, 0x6C203132, 0x33343536, 0x37383930, 0x31323329);
        Session.same("end(20)", s.machine.end(20), 20);
        s.tells("", "1234567890123");
        // Bytes above 127 are no characters of a text, whatever their sign is.
        s.machine.feed(0xFF000000, 0, 0, 0, 0);
        Session.same("end(1)", s.machine.end(1), 1);
        s.misreads("", 1, 0);
        // Waiting bytes are 0 at first, and again behind an end() that isn't refused.
        Session.same("end(3) without feed", new Session().machine.end(3), 3);
        s.machine.feed(0x61616161, 0x61616161, 0x61616161, 0x61616161, 0x61616161);
        s.machine.end(2);
        s.machine.end(2);
        s.misreads("", 1, 2);
        s.machine.feed(0x61616161, 0x61616161, 0x61616161, 0x61616161, 0x61616161);
        s.machine.end(0);
        s.machine.end(1);
        s.misreads("", 1, 0);
        s.machine.feed(0x61616161, 0x61616161, 0x61616161, 0x61616161, 0x61616161);
        s.machine.end(21);
        s.machine.end(-1);
        s.machine.end(1);
        s.refuses("", 2);
        // They wait through a run.
        s.machine.feed(0x28657661, 0x6C203729, 0, 0, 0);
        s.machine.run();
        s.machine.end(8);
        s.tells("", "7");
    }

    private static void end() {
        LispMachine x = new LispMachine();
        Session.same("end(-1)", x.end(-1), NONE);
        Session.same("end(21)", x.end(21), NONE);
        Session.same("end(least)", x.end(Integer.MIN_VALUE), NONE);
        Session.same("end(greatest)", x.end(Integer.MAX_VALUE), NONE);
        for (int n = 1; n <= 149; n++) {
            Session.same("end(20)", x.end(20), 20 * n);
        }
        Session.same("end(10)", x.end(10), 2990);
        Session.same("end(11) of 2990", x.end(11), NONE);
        x.feed(0x61000000, 0, 0, 0, 0);
        Session.same("end(20) of 2990", x.end(20), NONE);
        Session.same("end(10) of 2990", x.end(10), 3000);
        Session.same("end(1) of 3000", x.end(1), NONE);
        Session.same("end(0) of 3000", x.end(0), 3000);
        Session.same("run of 3000", x.run(), 1);
        Session.same("the text behind run()", x.end(0), 0);
        Session whole = new Session();
        whole.text("(eval 'abc)" + " ".repeat(2980));
        Session.same("end(10) behind 2991", whole.machine.end(10), NONE);
        whole.machine.feed(0x20202020, 0x20202020, 0x20202020, 0, 0);
        Session.same("end(9) behind 2991", whole.machine.end(9), 3000);
        whole.tells("", "abc");
    }

    private static void fuel() {
        Session s = new Session();
        Session.same("fuel(0)", s.machine.fuel(0), NONE);
        Session.same("fuel(1001)", s.machine.fuel(1001), NONE);
        Session.same("fuel(-1)", s.machine.fuel(-1), NONE);
        Session.same("fuel(1)", s.machine.fuel(1), 1000);
        s.tells("(eval (car 1))", "nil");
        s.fails("(eval (car (car 1)))", 1, 1);
        Session.same("fuel(2)", s.machine.fuel(2), 1);
        s.tells("(eval (car (car 1)))", "nil");
        Session.same("fuel(2000)", s.machine.fuel(2000), NONE);
        Session.same("fuel(1000)", s.machine.fuel(1000), 2);
        Session.same("fuel(1000) again", s.machine.fuel(1000), 1000);
    }

    private static void run() {
        Session s = new Session();
        s.tells("(defun f (x) (+ x 1))", "");
        s.tells("(eval (f 2))", "3");
        s.misreads("", 3, 0);
        s.misreads("(eval", 3, 5);
        s.refuses("(eval)", 2);
        s.refuses("(show g)", 3);
        s.fails("(eval (+ 4611686018427387903 1))", 3, 1);
        s.tells("(eval 5)", "5");
    }

    private static void fault() {
        Session s = new Session();
        s.misreads("(eval #)", 1, 6);
        Session.same("fault(3)", s.machine.fault(3), NONE);
        Session.same("fault(-1)", s.machine.fault(-1), NONE);
        Session.same("fault(least)", s.machine.fault(Integer.MIN_VALUE), NONE);
        s.text("(eval 1");
        Session.same("the fault stays until run()", s.machine.fault(0), 1);
        s.tells(")", "1");
        s.fails("(eval (+ 1 4611686018427387903))", 3, 1);
        s.refuses("(eval x)", 2);
    }

    private static void steps() {
        Session s = new Session();
        s.tells("(eval 7)", "7");
        Session.same("steps of a constant", s.machine.steps(), 0);
        s.tells("(eval (if (natp 7) (cons 1 (+ 1 1)) (car (car 1))))", "(1 . 2)");
        Session.same("steps of if", s.machine.steps(), 4);
        s.tells("(defun f (x) x)", "");
        Session.same("steps of defun", s.machine.steps(), 0);
        s.tells("(map f (1 2 3))", "(1 2 3)");
        Session.same("steps of map", s.machine.steps(), 3);
        s.machine.fuel(2);
        s.fails("(map f (1 2 3))", 1, 2);
    }

    private static void functions() {
        Session s = new Session();
        s.tells("(defun f (x) x)", "");
        Session.same("functions", s.machine.functions(), 1);
        s.tells("(defun g (x) x)", "");
        Session.same("functions", s.machine.functions(), 2);
        s.tells("(redo f (x) 1)", "");
        Session.same("functions", s.machine.functions(), 2);
        s.tells("(undo)", "");
        Session.same("functions", s.machine.functions(), 1);
    }

    private static void sizeAndLetter() {
        Session s = new Session();
        s.tells("(eval '(a 10 . b))", "(a 10 . b)");
        Session.same("size()", s.machine.size(), 10);
        Session.same("letter(0)", s.machine.letter(0), 40);
        Session.same("letter(9)", s.machine.letter(9), 41);
        Session.same("letter(10)", s.machine.letter(10), NONE);
        Session.same("letter(-1)", s.machine.letter(-1), NONE);
        Session.same("letter(least)", s.machine.letter(Integer.MIN_VALUE), NONE);
        Session.same("letter(greatest)", s.machine.letter(Integer.MAX_VALUE), NONE);
        s.refuses("(none)", 2);
        Session.same("letter(0) of nothing", s.machine.letter(0), NONE);
    }

    private static void anyArguments() {
        int[] odd = {Integer.MIN_VALUE, -21, -1, 0, 1, 20, 21, 1999, 2000, 3000, Integer.MAX_VALUE};
        LispMachine x = new LispMachine();
        for (int n : odd) {
            x.feed(n, n, n, n, n);
            x.end(n);
            x.fuel(n);
            x.run();
            x.fault(n);
            x.letter(n);
        }
        Session.same("size behind odd arguments", x.size(), 0);
    }
}
