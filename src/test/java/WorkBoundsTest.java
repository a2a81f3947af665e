/**
 * The sentences of TERMS and of FUEL AND FAULTS OF WORK that name a boundary case: how many terms
 * a call takes, the SIZE of a term, the least and greatest naturals, FUEL and depth.
 */
public final class WorkBoundsTest {
    private static final String MOST = "4611686018427387903";
    private static final String NEXT_TO_MOST = "4611686018427387902";
    private static final String HALF = "2305843009213693952";
    private static final String[] BASE = {"if", "equal", "cons", "implies", "+", "-", "<", "consp", "car",
        "cdr", "natp", "symbolp", "height", "not"};
    private static final int[] TAKES = {3, 2, 2, 2, 2, 2, 2, 1, 1, 1, 1, 1, 1, 1};

    public static void main(String[] args) {
        variables();
        constants();
        numbersOfTerms();
        callsAreLists();
        ifTakesNilAlone();
        sidesOfWhatIsNoPair();
        heights();
        differences();
        comparisons();
        sums();
        sizeInEachCommand();
        whatCountsAsSize();
        fuelAndSteps();
        thousandSteps();
        fuelOfMap();
        threeHundredOthers();
        depthAheadOfStep();
        depthOfEachCall();
        changesNothing();
        asTheyCome();
        Session.finish();
    }

    /** "A VARIABLE is a symbol but nil and t." */
    private static void variables() {
        Session s = new Session();
        for (String name : BASE) {
            s.tells("(with ((" + name + " 5)) " + name + ")", "5");
        }
        s.tells("(with ((quote 5)) quote)", "5");
        s.tells("(with ((tt 5) (nill 6) (t1 7) (_ 8)) (cons tt (cons nill (cons t1 _))))", "(5 6 7 . 8)");
        Session t = new Session();
        for (String none : new String[] {"nil", "t", "()", "0", "1", "'a", "(a)"}) {
            t.refuses("(with ((" + none + " 5)) 1)", 2);
            t.refuses("(defun f (" + none + ") 1)", 2);
        }
        t.refuses("(with ((nil 5)) nil)", 2);
        t.tells("(with ((x 5)) nil)", "nil");
        t.tells("(with ((x 5)) t)", "t");
    }

    /** "naturals, nil, t with quote are the same constants as without it" */
    private static void constants() {
        Session s = new Session();
        s.tells("(eval '0)", "0");
        s.tells("(eval '" + MOST + ")", MOST);
        s.tells("(eval (equal '" + MOST + " " + MOST + "))", "t");
        s.tells("(eval (equal 'nil nil))", "t");
        s.tells("(eval (equal '() ()))", "t");
        s.tells("(eval (equal 't t))", "t");
        s.tells("(eval (equal ''t 't))", "nil");
        s.tells("(eval ''0)", "'0");
        s.tells("(eval 'quote)", "quote");
        s.tells("(eval '(quote))", "(quote)");
        s.tells("(defun f () (cons '0 (cons '" + MOST + " (cons 'nil (cons 't (cons '(0) (cons 'a ''0)))))))", "");
        s.tells("(show f)", "(defun f nil (cons 0 (cons " + MOST + " (cons nil (cons t (cons '(0) (cons 'a ''0)))))))");
        s.refuses("(eval (quote))", 2);
        s.refuses("(eval (quote a b))", 2);
        s.refuses("(eval (quote a . b))", 2);
        s.refuses("(eval (quote . a))", 2);
    }

    /** "A CALL is a list of a FUNCTION's name and as many terms as it takes." */
    private static void numbersOfTerms() {
        for (int i = 0; i < BASE.length; i++) {
            Session s = new Session();
            for (int terms = 0; terms <= 5; terms++) {
                String call = "(eval (" + BASE[i] + " 1".repeat(terms) + "))";
                if (terms == TAKES[i]) {
                    Session.same(call, s.run(call), 0);
                    Session.same(call + " steps", s.machine.steps(), 1);
                } else {
                    s.refuses(call, 2);
                }
            }
        }
        String parameters = " a b c d e f";
        for (int takes = 0; takes <= 6; takes++) {
            Session s = new Session();
            s.tells("(defun g (" + parameters.substring(0, 2 * takes) + ") 7)", "");
            for (int terms = 0; terms <= 8; terms++) {
                String call = "(eval (g" + " 1".repeat(terms) + "))";
                if (terms == takes) {
                    s.tells(call, "7");
                } else {
                    s.refuses(call, 2);
                }
            }
        }
    }

    private static void callsAreLists() {
        Session s = new Session();
        s.tells("(defun g () 7)", "");
        s.tells("(eval (g . nil))", "7");
        s.refuses("(eval (g . 1))", 2);
        s.refuses("(eval (car 1 . 2))", 2);
        s.refuses("(eval (car . 1))", 2);
        s.refuses("(eval ((g)))", 2);
        s.refuses("(eval (nil))", 2);
        s.refuses("(eval (t))", 2);
        s.refuses("(eval (0))", 2);
        s.refuses("(eval (h))", 2);
        s.refuses("(eval g)", 2);
        s.refuses("(eval (cons 1 (h)))", 2);
        s.refuses("(eval (if t 1 (h)))", 2);
    }

    /** "the second one if the first one isn't nil, else the third one" */
    private static void ifTakesNilAlone() {
        Session s = new Session();
        for (String test : new String[] {"t", "0", "1", "'a", "'(nil)", "'quote", "''nil", "(not nil)"}) {
            s.tells("(eval (if " + test + " 2 3))", "2");
            s.tells("(eval (not " + test + "))", "nil");
            s.tells("(eval (implies " + test + " nil))", "nil");
            s.tells("(eval (implies " + test + " " + test + "))", "t");
        }
        for (String test : new String[] {"nil", "()", "'nil", "'()", "(not t)"}) {
            s.tells("(eval (if " + test + " 2 3))", "3");
            s.tells("(eval (not " + test + "))", "t");
            s.tells("(eval (implies " + test + " nil))", "t");
        }
    }

    /** "car, cdr its sides, nil of what is none" */
    private static void sidesOfWhatIsNoPair() {
        Session s = new Session();
        for (String none : new String[] {"nil", "t", "0", MOST, "'a"}) {
            s.tells("(eval (car " + none + "))", "nil");
            s.tells("(eval (cdr " + none + "))", "nil");
            s.tells("(eval (consp " + none + "))", "nil");
            s.tells("(eval (height " + none + "))", "0");
        }
        s.tells("(eval (car '(a)))", "a");
        s.tells("(eval (cdr '(a)))", "nil");
        s.tells("(eval (car ''a))", "quote");
        s.tells("(eval (cdr ''a))", "(a)");
    }

    /** "height 0 of what is no pair, else 1 and the greater one of both sides' heights" */
    private static void heights() {
        Session s = new Session();
        s.tells("(eval (height '(0 . 0)))", "1");
        s.tells("(eval (height '((0 . 0) . 0)))", "2");
        s.tells("(eval (height '(0 . (0 . 0))))", "2");
        s.tells("(eval (height '((0 . 0) . (0 . 0))))", "2");
        s.tells("(eval (height '(((0)) . (0))))", "3");
        s.tells("(eval (height ''a))", "2");
        new Session().tells("(eval (height '(" + "a ".repeat(990) + ")))", "990");
        s.tells("(defun left (n x) (if (equal n 0) x (left (- n 1) (cons x 0))))", "");
        s.tells("(eval (height (left 99 (left 98 'a))))", "197");
    }

    /** "the difference, 0 at least" */
    private static void differences() {
        Session s = new Session();
        String[][] rows = {{"1", "0", "1"}, {"1", "1", "0"}, {"1", "2", "0"}, {"0", "0", "0"}, {"0", "1", "0"},
            {"0", MOST, "0"}, {MOST, "0", MOST}, {MOST, MOST, "0"}, {MOST, NEXT_TO_MOST, "1"},
            {NEXT_TO_MOST, MOST, "0"}, {MOST, "1", NEXT_TO_MOST}, {"1", MOST, "0"}, {"'a", MOST, "0"},
            {MOST, "'a", MOST}, {MOST, "'(1)", MOST}, {"nil", "t", "0"}};
        for (String[] row : rows) {
            s.tells("(eval (- " + row[0] + " " + row[1] + "))", row[2]);
        }
    }

    private static void comparisons() {
        Session s = new Session();
        String[][] rows = {{"0", "0", "nil"}, {"0", "1", "t"}, {"1", "0", "nil"}, {MOST, MOST, "nil"},
            {NEXT_TO_MOST, MOST, "t"}, {MOST, NEXT_TO_MOST, "nil"}, {"0", MOST, "t"}, {MOST, "0", "nil"},
            {"'a", "1", "t"}, {"'a", "0", "nil"}, {"0", "'(5)", "nil"}, {"1", "t", "nil"}};
        for (String[] row : rows) {
            s.tells("(eval (< " + row[0] + " " + row[1] + "))", row[2]);
        }
        s.tells("(eval (natp 0))", "t");
        s.tells("(eval (natp " + MOST + "))", "t");
        s.tells("(eval (symbolp 0))", "nil");
    }

    /** "A sum above 2^62 - 1 is TOO GREAT." */
    private static void sums() {
        Session s = new Session();
        String[][] rows = {{"0", "0", "0"}, {MOST, "0", MOST}, {"0", MOST, MOST}, {NEXT_TO_MOST, "1", MOST},
            {"1", NEXT_TO_MOST, MOST}, {NEXT_TO_MOST, "0", NEXT_TO_MOST}, {HALF, "2305843009213693951", MOST},
            {MOST, "'a", MOST}, {"'(9)", MOST, MOST}, {"t", "nil", "0"}};
        for (String[] row : rows) {
            s.tells("(eval (+ " + row[0] + " " + row[1] + "))", row[2]);
        }
        String[][] tooGreat = {{MOST, "1"}, {"1", MOST}, {NEXT_TO_MOST, "2"}, {HALF, HALF}, {MOST, MOST},
            {MOST, NEXT_TO_MOST}};
        for (String[] row : tooGreat) {
            s.fails("(eval (+ " + row[0] + " " + row[1] + "))", 3, 1);
        }
        s.tells("(eval (- (+ " + NEXT_TO_MOST + " 1) " + MOST + "))", "0");
    }

    /** A term of this SIZE whose calls are cons and not, its leaves all alike. */
    private static String ofSize(int size, String leaf) {
        if (size == 1) {
            return leaf;
        }
        if (size == 2) {
            return "(not " + leaf + ")";
        }
        int left = (size - 1) / 2;
        return "(cons " + ofSize(left, leaf) + " " + ofSize(size - 1 - left, leaf) + ")";
    }

    /** "A term of a TEXT has a SIZE of at most 120." */
    private static void sizeInEachCommand() {
        for (String leaf : new String[] {"1", "'a", "nil", "'(a b c)"}) {
            for (int size = 1; size <= 123; size += size < 117 ? 29 : 1) {
                Session s = new Session();
                String term = ofSize(size, leaf);
                int answer = size <= 120 ? 0 : 2;
                Session.same("eval of size " + size, s.run("(eval " + term + ")"), answer);
                Session.same("defun of size " + size, s.run("(defun f () " + term + ")"), answer);
                s.run("(defun g () 1)");
                Session.same("redo of size " + size, s.run("(redo g () " + term + ")"), answer);
                Session.same("show behind it", s.run("(show f)"), answer == 0 ? 0 : 3);
            }
        }
        for (int size = 118; size <= 122; size++) {
            Session s = new Session();
            int answer = size <= 120 ? 0 : 2;
            Session.same("with of size " + size, s.run("(with ((x a)) " + ofSize(size, "x") + ")"), answer);
            Session.same("defun of size " + size, s.run("(defun f (x) " + ofSize(size, "x") + ")"), answer);
        }
        // A shown body of that SIZE is told as it was.
        Session s = new Session();
        s.tells("(defun f (x) " + ofSize(120, "x") + ")", "");
        s.tells("(show f)", "(defun f (x) " + ofSize(120, "x") + ")");
        s.tells("(defun g (x) " + ofSize(120, "'1") + ")", "");
        s.tells("(show g)", "(defun g (x) " + ofSize(120, "1") + ")");
    }

    /** "how many variables, constants and calls it has (each as often as it stands)" */
    private static void whatCountsAsSize() {
        String large = ofSize(116, "1");
        Session s = new Session();
        // 116 and the call, the if's test and its third term make 119, 120 or 121.
        Session.same("119", s.run("(eval (if nil " + large + " 1))"), 0);
        Session.same("120", s.run("(eval (if nil " + large + " (not 1)))"), 0);
        Session.same("121", s.run("(eval (if nil " + large + " (cons 1 1)))"), 2);
        Session.same("a quoted list is one", s.run("(eval (if nil " + large + " '(not (not (not (not 1))))))"), 0);
        Session.same("what no branch takes counts", s.run("(eval (if t 1 " + ofSize(118, "1") + "))"), 2);
        Session.same("what no branch takes counts", s.run("(eval (if t 1 " + ofSize(117, "1") + "))"), 0);
        // The same part twice counts twice.
        String half = ofSize(60, "1");
        Session.same("twice 60", s.run("(eval (cons " + half + " " + half + "))"), 2);
        Session.same("59 and 60", s.run("(eval (cons " + ofSize(59, "1") + " " + half + "))"), 0);
        Session t = new Session();
        t.tells("(defun six (a b c d e f) a)", "");
        t.tells("(defun none () 5)", "");
        String six = "(six 1 1 1 1 1 1)";
        String wide = "(six " + six + " " + six + " " + six + " " + six + " " + six + " " + six + ")";
        // wide has 43, so two of them and 31, 32 or 33 in a call of three make 118, 119, 120.
        t.tells("(eval (if nil (cons " + wide + " " + wide + ") " + ofSize(31, "(none)") + "))", told(31, "5"));
        t.tells("(eval (if nil (cons " + wide + " " + wide + ") " + ofSize(30, "(none)") + "))", told(30, "5"));
        t.refuses("(eval (if nil (cons " + wide + " " + wide + ") " + ofSize(32, "(none)") + "))", 2);
        // Values and what a function's body has are not limited.
        t.tells("(eval (car '(" + "(1) ".repeat(100) + ")))", "(1)");
        t.tells("(defun big () " + ofSize(119, "'a") + ")", "");
        t.tells("(eval (height (cons (big) (cons (big) (big)))))", "8");
    }

    /** How the value of ofSize is told; a leaf that isn't nil makes (not leaf) nil. */
    private static String told(int size, String leaf) {
        Session s = new Session();
        s.run("(eval " + ofSize(size, leaf) + ")");
        return s.out();
    }

    /** "1 OUT OF FUEL (a STEP more than FUEL)" */
    private static void fuelAndSteps() {
        Session s = new Session();
        for (int fuel = 1; fuel <= 12; fuel++) {
            s.machine.fuel(fuel);
            s.tells("(eval " + "(not ".repeat(fuel) + "nil" + ")".repeat(fuel) + ")", fuel % 2 == 0 ? "nil" : "t");
            Session.same("steps", s.machine.steps(), fuel);
            s.fails("(eval " + "(not ".repeat(fuel + 1) + "nil" + ")".repeat(fuel + 1) + ")", 1, fuel);
            s.tells("(eval 'a)", "a");
            Session.same("steps of a constant", s.machine.steps(), 0);
        }
        // What isn't evaluated makes no steps.
        s.machine.fuel(2);
        s.tells("(eval (if (not 1) (not 1) 3))", "3");
        s.tells("(eval (if 1 (not nil) (not 1)))", "t");
        s.fails("(eval (if (not 1) 1 (not 1)))", 1, 2);
    }

    /** down of n makes 4 n + 3 steps. */
    private static void defineDown(Session s) {
        s.tells("(defun down (n) (if (equal n 0) 0 (down (- n 1))))", "");
    }

    /** "FUEL, 1 .. 1000 (1000 at first)" */
    private static void thousandSteps() {
        Session s = new Session();
        defineDown(s);
        // 1 + 4 (124 + 124) + 6 are 999.
        s.tells("(eval (cons (down 124) (down 124)))", "(0 . 0)");
        Session.same("steps", s.machine.steps(), 999);
        s.tells("(eval (not (cons (down 124) (down 124))))", "nil");
        Session.same("steps", s.machine.steps(), 1000);
        s.fails("(eval (not (not (cons (down 124) (down 124)))))", 1, 1000);
        s.fails("(eval (cons (cons (down 124) (down 124)) (cons (not 1) (not 1))))", 1, 1000);
        for (int fuel : new int[] {999, 1000}) {
            s.machine.fuel(fuel);
            s.tells("(eval (cons (down 124) (down 124)))", "(0 . 0)");
        }
        s.machine.fuel(998);
        s.fails("(eval (cons (down 124) (down 124)))", 1, 998);
    }

    private static void fuelOfMap() {
        Session s = new Session();
        s.tells("(defun f (x) (not x))", "");
        s.tells("(defun g (x) x)", "");
        for (int fuel = 5; fuel <= 9; fuel++) {
            s.machine.fuel(fuel);
            if (fuel >= 6) {
                s.tells("(map f (1 nil 3))", "(nil t nil)");
                Session.same("steps of map", s.machine.steps(), 6);
            } else {
                s.fails("(map f (1 nil 3))", 1, fuel);
            }
        }
        s.machine.fuel(1);
        s.tells("(map g ())", "nil");
        s.tells("(map g (1))", "(1)");
        s.fails("(map g (1 2))", 1, 1);
        s.machine.fuel(990);
        s.run("(map g (" + "a ".repeat(990) + "))");
        Session.same("steps of a long map", s.machine.steps(), 990);
        Session.same("fault of a long map", s.machine.fault(2), 0);
        s.machine.fuel(989);
        Session t = new Session();
        t.tells("(defun g (x) x)", "");
        t.machine.fuel(989);
        t.fails("(map g (" + "a ".repeat(990) + "))", 1, 989);
    }

    /** nest of n opens 2 n + 2 calls, nest and if in turn, and begins (not (not nil)) within them. */
    private static void defineNest(Session s) {
        s.tells("(defun nest (n) (if (equal n 0) (not (not nil)) (nest (- n 1))))", "");
    }

    /** "A call that is begun within 300 others that are not ended is TOO DEEP" */
    private static void threeHundredOthers() {
        Session s = new Session();
        s.tells("(defun loop (x) (loop x))", "");
        s.fails("(eval (loop 1))", 2, 300);
        s.fails("(eval (not (loop 1)))", 2, 300);
        s.fails("(map loop (1))", 2, 300);
        s.fails("(with ((x 1)) (loop x))", 2, 300);
        defineNest(s);
        // nest of 147 has 298 open at once, nest of 148 has 300.
        s.tells("(eval (nest 147))", "nil");
        s.tells("(eval (not (nest 147)))", "t");
        s.tells("(eval (not (not (nest 147))))", "nil");
        s.fails("(eval (not (not (not (nest 147)))))", 2, 3 + 4 * 147 + 3 + 1);
        s.tells("(eval (nest 148))", "nil");
        s.fails("(eval (not (nest 148)))", 2, 1 + 4 * 148 + 3 + 1);
        s.fails("(eval (not (not (nest 148))))", 2, 2 + 4 * 148 + 2);
        s.fails("(eval (nest 149))", 2, 4 * 148 + 3 + 3);
        s.tells("(map nest (148 98))", "(nil nil)");
        s.fails("(map nest (1 149))", 2, 4 + 5 + 4 * 148 + 3 + 3);
        // A branch and a body are within their call; arguments that are ended are not.
        s.tells("(eval (cons (nest 100) (nest 100)))", "(nil)");
        s.tells("(eval (if (nest 60) 1 (nest 146)))", "nil");
    }

    /** "(asked ahead of its STEP)" */
    private static void depthAheadOfStep() {
        Session s = new Session();
        s.tells("(defun loop (x) (loop x))", "");
        for (int fuel = 295; fuel <= 305; fuel++) {
            s.machine.fuel(fuel);
            s.fails("(eval (loop 1))", fuel < 300 ? 1 : 2, Math.min(fuel, 300));
        }
        s.machine.fuel(1000);
        defineNest(s);
        int steps = 1 + 4 * 148 + 3 + 1;
        for (int fuel = steps - 2; fuel <= steps + 2; fuel++) {
            s.machine.fuel(fuel);
            s.fails("(eval (not (nest 148)))", fuel < steps ? 1 : 2, Math.min(fuel, steps));
        }
    }

    private static void depthOfEachCall() {
        // Each kind of call may be the one that is too deep; variables and constants never are.
        for (int i = 0; i < BASE.length; i++) {
            Session s = new Session();
            s.tells("(defun g (n) (if (equal n 0) (" + BASE[i] + " n".repeat(TAKES[i]) + ") (g (- n 1))))", "");
            Session.same(BASE[i], s.run("(eval (g 148))"), 0);
            Session.same(BASE[i], s.run("(eval (not (g 148)))"), 0);
            s.fails("(eval (not (not (g 148))))", 2, 2 + 4 * 148 + 2);
            s.tells("(redo g (n) (if n (if n (" + BASE[i] + " n".repeat(TAKES[i]) + ") 1) 2))", "");
            Session.same(BASE[i], s.run("(eval (g 148))"), 0);
        }
        Session s = new Session();
        s.tells("(defun h (x) (if (consp x) (h (cdr x)) x))", "");
        // h of a list of 148 opens 2 x 148 + 2 calls, and consp within them.
        s.tells("(eval (h '(" + "a ".repeat(148) + ")))", "nil");
        s.tells("(eval (not (h '(" + "a ".repeat(148) + "))))", "t");
        s.fails("(eval (h '(" + "a ".repeat(149) + ")))", 2, 4 * 148 + 3 + 3);
    }

    /** "A command that has one changes nothing." */
    private static void changesNothing() {
        Session s = new Session();
        s.tells("(defun f (x) (f x))", "");
        s.tells("(defun inc (x) (+ x 1))", "");
        s.machine.fuel(301);
        for (int i = 0; i < 5; i++) {
            s.fails("(eval (f 1))", 2, 300);
            s.fails("(map inc (1 " + MOST + "))", 3, 4);
            s.machine.fuel(3);
            s.fails("(map inc (1 2))", 1, 3);
            Session.same("the fuel behind faults", s.machine.fuel(301), 3);
            Session.same("functions behind faults", s.machine.functions(), 2);
            s.tells("(show f)", "(defun f (x) (f x))");
            s.tells("(map inc (1 2))", "(2 3)");
            Session.same("the TEXT behind faults", s.machine.end(0), 0);
        }
        s.tells("(undo)", "");
        s.tells("(undo)", "");
        s.refuses("(undo)", 3);
    }

    /** "FAULTS OF WORK, as they come" */
    private static void asTheyCome() {
        Session s = new Session();
        s.tells("(defun loop (x) (loop x))", "");
        s.tells("(defun wide (n) (if (equal n 0) 0 (+ (wide (- n 1)) (wide (- n 1)))))", "");
        String great = "(+ 1 " + MOST + ")";
        s.fails("(eval (cons " + great + " (loop 1)))", 3, 2);
        s.fails("(eval (cons (loop 1) " + great + "))", 2, 300);
        s.fails("(eval (cons (wide 20) (loop 1)))", 1, 1000);
        s.fails("(eval (cons (loop 1) (wide 20)))", 2, 300);
        s.fails("(eval (cons " + great + " (wide 20)))", 3, 2);
        // The step of the sum itself comes ahead of the sum.
        s.machine.fuel(1);
        s.fails("(eval " + great + ")", 3, 1);
        s.fails("(eval (not " + great + "))", 1, 1);
        s.machine.fuel(2);
        s.fails("(eval (not " + great + "))", 3, 2);
        s.fails("(eval (+ (not 1) (+ 1 " + MOST + ")))", 1, 2);
    }
}
