/**
 * The sentences of promises 1 to 4 and 6 to 10 that name a boundary case: at the boundary, a step
 * inside it, a step outside it, and with the least and the greatest int.
 */
public final class CallBoundsTest {
    private static final int NONE = LispMachine.NONE;
    private static final int LEAST = Integer.MIN_VALUE;
    private static final int GREATEST = Integer.MAX_VALUE;
    private static final int BLANKS = 0x20202020;
    private static final String MOST = "4611686018427387903";

    public static void main(String[] args) {
        newObject();
        objectsShareNothing();
        placesOfWaitingBytes();
        leastAndGreatestBytes();
        zerosAtFirst();
        refusedEndsKeepWhatWaits();
        endTakesTheFirst();
        endOutsideZeroToTwenty();
        endUpTo3000();
        fuelOutsideOneTo1000();
        fuelOfCommandsToCome();
        faultBeforeAndBehind();
        stepsOfTheLatestRun();
        functionsFromNoneTo40();
        sizeAndLetter();
        outStaysUntilRun();
        Session.finish();
    }

    private static void same(String what, int got, int due) {
        Session.same(what, got, due);
    }

    private static void feedBlanks(LispMachine x) {
        x.feed(BLANKS, BLANKS, BLANKS, BLANKS, BLANKS);
    }

    /** A text of so many blanks. */
    private static LispMachine blanks(int count) {
        LispMachine x = new LispMachine();
        for (int left = count; left > 0; left -= 20) {
            feedBlanks(x);
            x.end(Math.min(left, 20));
        }
        return x;
    }

    /** "Nothing DEFINED; no TEXT, OUT is empty." */
    private static void newObject() {
        same("functions() of a new object", new LispMachine().functions(), 0);
        same("size() of a new object", new LispMachine().size(), 0);
        for (int k : new int[] {LEAST, -1, 0, 1, 1999, 2000, GREATEST}) {
            same("letter(" + k + ") of a new object", new LispMachine().letter(k), NONE);
        }
        same("end(0) of a new object", new LispMachine().end(0), 0);
        same("steps() of a new object", new LispMachine().steps(), 0);
        new Session().misreads("", 3, 0);
        new Session().refuses("(undo)", 3);
        new Session().refuses("(show f)", 3);
        new Session().refuses("(eval (f))", 2);
    }

    private static void objectsShareNothing() {
        Session first = new Session();
        Session second = new Session();
        first.tells("(defun f (x) x)", "");
        first.tells("(eval 'abc)", "abc");
        first.text("(eval ");
        feedBlanks(first.machine);
        first.machine.fuel(7);
        same("functions() of another object", second.machine.functions(), 0);
        same("size() of another object", second.machine.size(), 0);
        same("end(1) of another object", second.machine.end(1), 1);
        second.misreads("", 1, 0);
        same("fuel(1000) of another object", second.machine.fuel(1000), 1000);
        second.tells("(eval 5)", "5");
        first.tells("6)", "6");
    }

    /** "Twenty bytes wait, those of a first, the highest of each first." */
    private static void placesOfWaitingBytes() {
        Session s = new Session();
        for (int at = 0; at < 20; at++) {
            int[] words = Session.words(" ".repeat(at) + "#" + " ".repeat(19 - at));
            s.machine.feed(words[0], words[1], words[2], words[3], words[4]);
            same("end(20)", s.machine.end(20), 20);
            s.misreads("", 1, at);
            // Of the bytes ahead of it none is it, and with it they are one more.
            s.machine.feed(words[0], words[1], words[2], words[3], words[4]);
            s.machine.end(at);
            s.misreads("", 3, at);
            s.machine.feed(words[0], words[1], words[2], words[3], words[4]);
            s.machine.end(at + 1);
            s.misreads("", 1, at);
        }
    }

    private static void leastAndGreatestBytes() {
        Session s = new Session();
        for (int place = 0; place < 5; place++) {
            for (int n : new int[] {LEAST, GREATEST, -1, 0}) {
                int[] words = {BLANKS, BLANKS, BLANKS, BLANKS, BLANKS};
                words[place] = n;
                s.machine.feed(words[0], words[1], words[2], words[3], words[4]);
                same("end(20) of " + n, s.machine.end(20), 20);
                s.misreads("", 1, 4 * place);
            }
            // The bytes 126 and 127, 31 and 32, 10 and 11, each at an int's edge.
            feedOne(s, place, 0x2020207F);
            s.misreads("", 1, 4 * place + 3);
            feedOne(s, place, 0x1F202020);
            s.misreads("", 1, 4 * place);
            feedOne(s, place, 0x0A200A0B);
            s.misreads("", 1, 4 * place + 3);
            feedOne(s, place, 0x202020A0);
            s.misreads("", 1, 4 * place + 3);
            feedOne(s, place, 0x2020203B);
            s.misreads("", 3, 20);
        }
    }

    private static void feedOne(Session s, int place, int n) {
        int[] words = {BLANKS, BLANKS, BLANKS, BLANKS, BLANKS};
        words[place] = n;
        s.machine.feed(words[0], words[1], words[2], words[3], words[4]);
        s.machine.end(20);
    }

    /** "(They are 0 at first, and behind each end() that is not refused.)" */
    private static void zerosAtFirst() {
        for (int n = 1; n <= 20; n++) {
            Session s = new Session();
            same("end(" + n + ") of a new object", s.machine.end(n), n);
            s.misreads("", 1, 0);
        }
        for (int n = 0; n <= 20; n++) {
            Session s = new Session();
            feedBlanks(s.machine);
            same("end(" + n + ") of blanks", s.machine.end(n), n);
            same("end(20) behind it", s.machine.end(20), n + 20);
            s.misreads("", 1, n);
        }
        // The latest feed alone counts, and zeros that are fed are zeros.
        Session s = new Session();
        feedBlanks(s.machine);
        s.machine.feed(BLANKS, 0, 0, 0, 0);
        s.machine.end(20);
        s.misreads("", 1, 4);
    }

    private static void refusedEndsKeepWhatWaits() {
        for (int n : new int[] {LEAST, LEAST + 1, -20, -1, 21, 22, 3000, GREATEST - 1, GREATEST}) {
            Session s = new Session();
            s.machine.feed(0x28657661, 0x6C203729, 0, 0, 0);
            same("end(" + n + ")", s.machine.end(n), NONE);
            same("end(8) behind it", s.machine.end(8), 8);
            s.tells("", "7");
        }
        // They wait through an end() that there is no room for, and through a run.
        Session s = new Session();
        s.text(" ".repeat(2993));
        s.machine.feed(0x28657661, 0x6C203729, 0, 0, 0);
        same("end(8) of 2993", s.machine.end(8), NONE);
        s.misreads("", 3, 2993);
        same("end(8) behind the run", s.machine.end(8), 8);
        s.tells("", "7");
    }

    /** "The first n of the bytes that wait come behind the TEXT: how many it has." */
    private static void endTakesTheFirst() {
        Session s = new Session();
        int due = 0;
        String text = "(eval '(a b c d e f g h i j k l m n o p q r s t u v w x y z"
                + " aa bb cc dd ee ff gg hh ii jj kk ll mm nn oo pp qq rr ss tt uu vv ww xx yy zz"
                + " aaa bbb ccc ddd eee fff ggg hhh iii jjj kkk lll mmm nnn ooo ppp qqq))";
        for (int n = 0; n <= 20; n++) {
            int[] words = Session.words(text.substring(Math.min(due, text.length()), Math.min(due + 20, text.length())));
            s.machine.feed(words[0], words[1], words[2], words[3], words[4]);
            due += n;
            if (due <= text.length()) {
                same("end(" + n + ")", s.machine.end(n), due);
            } else {
                due -= n;
            }
        }
        s.tells(text.substring(due), text.substring(7, text.length() - 1));
    }

    /** "NONE, refused, when n isn't 0 .. 20 .." */
    private static void endOutsideZeroToTwenty() {
        int[] outside = {LEAST, LEAST + 1, -21, -20, -2, -1, 21, 22, 256, 65536, GREATEST - 1, GREATEST};
        for (int length : new int[] {0, 1, 20, 2979, 2980, 2981, 2999, 3000}) {
            LispMachine x = blanks(length);
            for (int n : outside) {
                same("end(" + n + ") of " + length, x.end(n), NONE);
            }
            same("end(0) behind refused ones", x.end(0), length);
        }
        for (int n = 0; n <= 20; n++) {
            same("end(" + n + ")", new LispMachine().end(n), n);
        }
    }

    /** ".. or there would be more than 3000." */
    private static void endUpTo3000() {
        for (int length = 2979; length <= 3000; length++) {
            for (int n = 0; n <= 20; n++) {
                int due = length + n <= 3000 ? length + n : NONE;
                LispMachine x = blanks(length);
                feedBlanks(x);
                same("end(" + n + ") of " + length, x.end(n), due);
                same("the TEXT behind it", x.end(0), due == NONE ? length : due);
            }
        }
        // 3000 characters are read, each of them.
        Session s = new Session();
        s.text(" ".repeat(2992) + "(eval 1)");
        same("end(1) of 3000", s.machine.end(1), NONE);
        s.tells("", "1");
        new Session().misreads(" ".repeat(2999) + "#", 1, 2999);
        new Session().misreads(" ".repeat(2998) + "#", 1, 2998);
        new Session().misreads(" ".repeat(2992) + "(eval 1 ", 3, 3000);
        new Session().misreads(" ".repeat(2991) + "(eval 1 ", 3, 2999);
    }

    /** "NONE, refused, when n isn't 1 .. 1000." */
    private static void fuelOutsideOneTo1000() {
        LispMachine x = new LispMachine();
        int before = 1000;
        for (int n : new int[] {1000, 999, 2, 1, 500}) {
            for (int outside : new int[] {LEAST, LEAST + 1, -1000, -1, 0, 1001, 1002, GREATEST - 1, GREATEST}) {
                same("fuel(" + outside + ")", x.fuel(outside), NONE);
            }
            same("fuel(" + n + ")", x.fuel(n), before);
            before = n;
        }
        for (int n = 1; n <= 1000; n++) {
            if (n % 400 == 1) {
                x = new LispMachine();
                before = 1000;
            }
            same("fuel(" + n + ")", x.fuel(n), before);
            before = n;
        }
    }

    /** "The FUEL of commands to come: what it was." */
    private static void fuelOfCommandsToCome() {
        Session s = new Session();
        s.text("(eval (not (not nil)))");
        s.machine.fuel(1);
        s.fails("", 1, 1);
        s.machine.fuel(0);
        s.machine.fuel(LEAST);
        s.machine.fuel(GREATEST);
        s.fails("(eval (not (not nil)))", 1, 1);
        s.machine.fuel(2);
        same("the latest run's steps stay", s.machine.steps(), 1);
        same("the latest run's fault stays", s.machine.fault(2), 1);
        s.tells("(eval (not (not nil)))", "nil");
        s.misreads("(", 3, 1);
        s.refuses("(eval x)", 2);
        s.fails("(eval (not (not (not nil))))", 1, 2);
        same("the fuel behind faults", s.machine.fuel(3), 2);
        s.tells("(eval (not (not (not nil))))", "t");
    }

    /** "each 0 without one (the place NONE), or before. NONE for another what." */
    private static void faultBeforeAndBehind() {
        Session s = new Session();
        faults(s, "before", 0, NONE, 0);
        feedBlanks(s.machine);
        s.machine.end(3);
        faults(s, "before a run", 0, NONE, 0);
        s.machine.run();
        faults(s, "behind blanks", 3, 3, 0);
        s.run("#");
        faults(s, "behind 1", 1, 0, 0);
        s.run("(eval 1)");
        faults(s, "behind a command", 0, NONE, 0);
        s.run("(eval abcdefghijkl)");
        faults(s, "behind 2", 2, 6, 0);
        s.run("(eval x)");
        faults(s, "behind answer 2", 0, NONE, 0);
        s.run("(".repeat(41));
        faults(s, "behind 4", 4, 40, 0);
        s.run("(show f)");
        faults(s, "behind answer 3", 0, NONE, 0);
        s.run("(eval (+ 1 " + MOST + "))");
        faults(s, "behind TOO GREAT", 0, NONE, 3);
        s.run("(");
        faults(s, "behind a fault of reading again", 3, 1, 0);
        s.machine.fuel(1);
        s.run("(eval (not (not 1)))");
        faults(s, "behind OUT OF FUEL", 0, NONE, 1);
        s.machine.fuel(1000);
        s.text("(eval");
        faults(s, "behind feed, end and fuel", 0, NONE, 1);
        s.run(" 1)");
        s.run("(defun f () (f))");
        faults(s, "behind defun", 0, NONE, 0);
        s.run("(eval (f))");
        faults(s, "behind TOO DEEP", 0, NONE, 2);
        Session words = new Session();
        words.run("(" + "a ".repeat(1000));
        faults(words, "behind 5", 5, 1999, 0);
        Session full = full();
        full.run("(defun g () 1)");
        faults(full, "behind answer 8", 0, NONE, 0);
    }

    private static void faults(Session s, String when, int reading, int place, int work) {
        same("fault(0) " + when, s.machine.fault(0), reading);
        same("fault(1) " + when, s.machine.fault(1), place);
        same("fault(2) " + when, s.machine.fault(2), work);
        for (int what : new int[] {LEAST, LEAST + 1, -2, -1, 3, 4, 256, GREATEST - 1, GREATEST}) {
            same("fault(" + what + ") " + when, s.machine.fault(what), NONE);
        }
    }

    /** Forty functions f0 .. f39, which call nothing. */
    private static Session full() {
        Session s = new Session();
        for (int i = 0; i < 40; i++) {
            s.run("(defun f" + i + " (x) x)");
            same("functions() behind so many", s.machine.functions(), i + 1);
        }
        return s;
    }

    /** "How many STEPS the latest run() made (with OUT OF FUEL its FUEL)." */
    private static void stepsOfTheLatestRun() {
        Session s = new Session();
        steps(s, "(eval 1)", 0, 0);
        steps(s, "(defun f (n) (f n))", 0, 0);
        steps(s, "(eval (not 1))", 0, 1);
        steps(s, "(eval (not (not 1)))", 0, 2);
        steps(s, "(eval x)", 2, 0);
        steps(s, "(eval (f 1))", 4, 300);
        steps(s, "(", 1, 0);
        steps(s, "(eval (cons (+ 1 " + MOST + ") (not 1)))", 4, 2);
        steps(s, "(show g)", 3, 0);
        steps(s, "(map f ())", 0, 0);
        for (int fuel : new int[] {1, 2, 298, 299}) {
            s.machine.fuel(fuel);
            steps(s, "(eval (f 1))", 4, fuel);
            same("fault(2)", s.machine.fault(2), 1);
        }
        for (int fuel : new int[] {300, 301, 999, 1000}) {
            s.machine.fuel(fuel);
            steps(s, "(eval (f 1))", 4, 300);
            same("fault(2)", s.machine.fault(2), 2);
        }
        steps(s, "(redo f (n) (if (equal n 0) 0 (+ (f (- n 1)) (f (- n 1)))))", 0, 0);
        for (int fuel : new int[] {1000, 999, 998, 2, 1}) {
            s.machine.fuel(fuel);
            steps(s, "(eval (f 20))", 4, fuel);
            same("fault(2)", s.machine.fault(2), 1);
        }
        steps(s, "(undo)", 0, 0);
    }

    private static void steps(Session s, String text, int answer, int due) {
        same(text + " answers", s.run(text), answer);
        same(text + " makes steps", s.machine.steps(), due);
    }

    /** "How many functions are DEFINED": none and all that fit. */
    private static void functionsFromNoneTo40() {
        Session s = full();
        s.refuses("(defun g (x) x)", 8);
        same("functions() of a full object", s.machine.functions(), 40);
        s.refuses("(defun f39 (x) x)", 3);
        s.tells("(redo f39 (x) 1)", "");
        same("functions() behind redo", s.machine.functions(), 40);
        for (int left = 39; left >= 0; left--) {
            s.tells("(undo)", "");
            same("functions() behind undo", s.machine.functions(), left);
        }
        s.refuses("(undo)", 3);
        same("functions() of an empty object", s.machine.functions(), 0);
        s.tells("(defun g (x) x)", "");
        same("functions() of one", s.machine.functions(), 1);
    }

    /** "How many characters OUT has." "Character k of OUT; NONE when there is none." */
    private static void sizeAndLetter() {
        for (int length : new int[] {1, 2, 11, 1998, 1999, 2000, 2001, 2002, 2500}) {
            Session s = new Session();
            String told = told(length);
            same("run()", s.run("(eval '" + told + ")"), 0);
            int due = Math.min(length, 2000);
            same("size() of " + length, s.machine.size(), due);
            for (int k = 0; k < due; k++) {
                same("letter(" + k + ") of " + length, s.machine.letter(k), told.charAt(k));
            }
            for (int k : new int[] {LEAST, LEAST + 1, -2, -1, due, due + 1, 2000, 2001, GREATEST - 1, GREATEST}) {
                same("letter(" + k + ") of " + length, s.machine.letter(k), NONE);
            }
        }
    }

    /** An object that is told with so many characters. */
    private static String told(int length) {
        if (length <= 11) {
            return "a".repeat(length);
        }
        int inside = length - 2;
        int last = inside % 10 == 0 ? 10 : inside % 10;
        return "(" + "abcdefghi ".repeat((inside - last) / 10) + "z".repeat(last) + ")";
    }

    /** "OUT is empty where nothing else is told": each answer, and nothing but run(), empties it. */
    private static void outStaysUntilRun() {
        Session s = full();
        String[] telling = {"(eval 'abc)", "(with ((x abc)) x)", "(map f0 ())", "(show f0)"};
        String[] out = {"abc", "abc", "nil", "(defun f0 (x) x)"};
        String[] silent = {"", "(", "(eval x)", "(show g)", "(defun g () 1)", "(redo f1 (x) x)",
            "(eval (+ 1 " + MOST + "))", "(undo)", "(defun g (x) x)"};
        for (int i = 0; i < silent.length; i++) {
            s.tells(telling[i % 4], out[i % 4]);
            feedBlanks(s.machine);
            s.machine.end(0);
            s.machine.end(21);
            s.machine.fuel(0);
            s.machine.fuel(1000);
            Session.same("OUT behind other calls", s.out(), out[i % 4]);
            s.run(silent[i]);
            same("size() behind " + silent[i], s.machine.size(), 0);
            same("letter(0) behind " + silent[i], s.machine.letter(0), NONE);
        }
    }
}
