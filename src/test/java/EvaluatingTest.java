/** TERMS and their values, FUEL AND FAULTS OF WORK. */
public final class EvaluatingTest {
    private static final String MOST = "4611686018427387903";

    public static void main(String[] args) {
        baseValues();
        sums();
        whatIsATerm();
        sizeOfTerms();
        order();
        fuel();
        tooDeep();
        tooGreat();
        Session.finish();
    }

    private static void baseValues() {
        Session s = new Session();
        s.tells("(eval (if nil 1 2))", "2");
        s.tells("(eval (if t 1 2))", "1");
        s.tells("(eval (if 0 1 2))", "1");
        s.tells("(eval (equal 'a 'a))", "t");
        s.tells("(eval (equal '(a (1)) '(a (1))))", "t");
        s.tells("(eval (equal '(a) '(b)))", "nil");
        s.tells("(eval (equal nil ()))", "t");
        s.tells("(eval (equal 0 nil))", "nil");
        s.tells("(eval (cons 1 'nil))", "(1)");
        s.tells("(eval (car '(1 . 2)))", "1");
        s.tells("(eval (cdr '(1 . 2)))", "2");
        s.tells("(eval (cons (car 5) (cdr 'a)))", "(nil)");
        s.tells("(eval (car nil))", "nil");
        s.tells("(eval (consp '(1)))", "t");
        s.tells("(eval (consp nil))", "nil");
        s.tells("(eval (natp 0))", "t");
        s.tells("(eval (natp '(0)))", "nil");
        s.tells("(eval (natp 'a))", "nil");
        s.tells("(eval (symbolp nil))", "t");
        s.tells("(eval (symbolp 't))", "t");
        s.tells("(eval (symbolp '-1))", "t");
        s.tells("(eval (symbolp 1))", "nil");
        s.tells("(eval (symbolp '(a)))", "nil");
        s.tells("(eval (height 'a))", "0");
        s.tells("(eval (height nil))", "0");
        s.tells("(eval (height '(a)))", "1");
        s.tells("(eval (height '(a b c)))", "3");
        s.tells("(eval (height '(((a)) . b)))", "3");
        s.tells("(eval (height '(a (b (c)) d)))", "5");
        s.tells("(eval (not nil))", "t");
        s.tells("(eval (not 0))", "nil");
        s.tells("(eval (implies nil nil))", "t");
        s.tells("(eval (implies nil 1))", "t");
        s.tells("(eval (implies 1 nil))", "nil");
        s.tells("(eval (implies 1 2))", "t");
    }

    private static void sums() {
        Session s = new Session();
        s.tells("(eval (+ 2 3))", "5");
        s.tells("(eval (+ 'a '(1)))", "0");
        s.tells("(eval (+ 'a 3))", "3");
        s.tells("(eval (+ " + MOST + " nil))", MOST);
        s.tells("(eval (- 5 3))", "2");
        s.tells("(eval (- 3 5))", "0");
        s.tells("(eval (- 3 3))", "0");
        s.tells("(eval (- 3 'a))", "3");
        s.tells("(eval (- 'a 3))", "0");
        s.tells("(eval (- 0 " + MOST + "))", "0");
        s.tells("(eval (< 2 3))", "t");
        s.tells("(eval (< 3 3))", "nil");
        s.tells("(eval (< 'a 1))", "t");
        s.tells("(eval (< 'a 'b))", "nil");
        s.tells("(eval (< 1 t))", "nil");
        s.tells("(eval (< 4611686018427387902 " + MOST + "))", "t");
    }

    private static void whatIsATerm() {
        Session s = new Session();
        s.tells("(defun two (x y) (cons x y))", "");
        s.tells("(defun none () 5)", "");
        s.tells("(eval (none))", "5");
        s.tells("(eval (two (none) 'x))", "(5 . x)");
        s.tells("(eval ())", "nil");
        s.tells("(eval '())", "nil");
        s.tells("(eval t)", "t");
        s.tells("(eval (two . (1 2)))", "(1 . 2)");
        String[] wrong = {"x", "(x)", "(two 1)", "(two 1 2 3)", "(two 1 . 2)", "(none 1)", "(unknown)",
            "(unknown 1)", "(quote)", "(quote a b)", "(quote . a)", "(nil)", "(t 1)", "(1 2)", "((car) 1)",
            "(car)", "(car 1 2)", "(car . 1)", "(if 1 2)", "(if 1 2 3 4)", "(cons 1 x)", "(cons x 1)",
            "(not)", "(eval 1)", "(two 1 (unknown 2))", "(two 1 (car))", "('car 1)"};
        for (String term : wrong) {
            s.refuses("(eval " + term + ")", 2);
        }
        // quote and the names of functions are variables like others.
        s.tells("(with ((car 1) (quote 2) (two 3)) (two car (cons quote two)))", "(1 2 . 3)");
    }

    private static void sizeOfTerms() {
        // Seven sums around a constant have the size 15, seven of these in six sums 111.
        String sum = "0";
        for (int i = 0; i < 7; i++) {
            sum = "(+ " + sum + " 1)";
        }
        String large = sum;
        for (int i = 0; i < 6; i++) {
            large = "(+ " + large + " " + sum + ")";
        }
        String seven = "(if nil nil (if nil nil 'a))";
        String eight = "(if nil nil (if nil nil (car 'a)))";
        Session s = new Session();
        s.tells("(eval (if t " + large + " " + seven + "))", "49");
        s.refuses("(eval (if t " + large + " " + eight + "))", 2);
        s.refuses("(with ((x 1)) (if x (not " + large + ") " + seven + "))", 2);
        Session inDefun = new Session();
        inDefun.refuses("(defun f (x) (if x " + large + " " + eight + "))", 2);
        inDefun.tells("(defun f (x) (if x " + large + " " + seven + "))", "");
        inDefun.tells("(eval (cons (f nil) (f 1)))", "(a . 49)");
        inDefun.refuses("(redo f (x) (if x " + large + " " + eight + "))", 2);
        // A constant counts as one however much is in it.
        new Session().tells("(eval (car '(" + "(1) ".repeat(200) + ")))", "(1)");
    }

    private static void order() {
        Session s = new Session();
        // Arguments are evaluated from the left, so the fault of the left one comes.
        s.fails("(eval (cons (+ 1 " + MOST + ") (+ 1 " + MOST + ")))", 3, 2);
        s.fails("(eval (cons (car 1) (+ 1 " + MOST + ")))", 3, 3);
        s.tells("(defun loop (x) (loop x))", "");
        s.fails("(eval (cons (loop 1) (+ 1 " + MOST + ")))", 2, 300);
        s.fails("(eval (cons (+ 1 " + MOST + ") (loop 1)))", 3, 2);
        // All but if evaluate every term, implies too.
        s.fails("(eval (implies nil (loop 1)))", 2, 300);
        s.tells("(eval (if nil (loop 1) 3))", "3");
        s.tells("(eval (if 1 3 (loop 1)))", "3");
        s.fails("(eval (if (loop 1) 2 3))", 2, 300);
        s.tells("(defun first (x y) x)", "");
        s.fails("(eval (first 1 (loop 1)))", 2, 300);
        // A body sees its own parameters alone, those of an inner call being gone behind it.
        s.tells("(defun swap (x y) (cons y x))", "");
        s.tells("(defun both (y x) (cons (swap x y) (cons x y)))", "");
        s.tells("(eval (both 1 2))", "((1 . 2) 2 . 1)");
        s.tells("(with ((x 5) (y 6)) (cons (swap y x) (cons x y)))", "((5 . 6) 5 . 6)");
        s.tells("(defun six (a b c d e f) (cons a (cons b (cons c (cons d (cons e f))))))", "");
        s.tells("(eval (six 1 2 3 4 5 (six 1 2 3 4 5 6)))", "(1 2 3 4 5 1 2 3 4 5 . 6)");
    }

    private static void fuel() {
        Session s = new Session();
        s.tells("(defun down (n) (if (equal n 0) 0 (down (- n 1))))", "");
        // down of n makes 4 n + 3 steps.
        s.machine.fuel(43);
        s.tells("(eval (down 10))", "0");
        Session.same("steps", s.machine.steps(), 43);
        s.machine.fuel(42);
        s.fails("(eval (down 10))", 1, 42);
        s.machine.fuel(1);
        s.tells("(eval 'a)", "a");
        s.tells("(eval (not 1))", "nil");
        s.fails("(eval (not (not 1)))", 1, 1);
        s.fails("(map down (0))", 1, 1);
        s.tells("(map down ())", "nil");
        s.machine.fuel(1000);
        s.tells("(defun wide (n) (if (equal n 0) 0 (+ (wide (- n 1)) (wide (- n 1)))))", "");
        s.fails("(eval (wide 30))", 1, 1000);
        s.tells("(eval (wide 2))", "0");
    }

    private static void tooDeep() {
        Session s = new Session();
        s.tells("(defun loop (x) (loop x))", "");
        s.fails("(eval (loop 1))", 2, 300);
        // Asked ahead of its step: with 300 of fuel it is the depth, with 299 the fuel.
        s.machine.fuel(300);
        s.fails("(eval (loop 1))", 2, 300);
        s.machine.fuel(299);
        s.fails("(eval (loop 1))", 1, 299);
        s.machine.fuel(1000);
        // Within down of n the last equal is begun within 2 n + 2 others.
        s.tells("(defun down (n) (if (equal n 0) 0 (down (- n 1))))", "");
        s.tells("(eval (down 148))", "0");
        Session.same("steps", s.machine.steps(), 4 * 148 + 3);
        s.fails("(eval (down 149))", 2, 4 * 148 + 3 + 3);
        s.tells("(eval (not (down 148)))", "nil");
        s.fails("(eval (not (not (down 148))))", 2, 2 + 4 * 148 + 2);
        // Calls that are ended no longer count.
        s.tells("(eval (cons (down 100) (down 100)))", "(0 . 0)");
        s.tells("(map down (100 100))", "(0 0)");
        s.fails("(map down (99 149))", 2, 4 * 99 + 3 + 4 * 148 + 3 + 3);
    }

    private static void tooGreat() {
        Session s = new Session();
        s.fails("(eval (+ " + MOST + " 1))", 3, 1);
        s.fails("(eval (+ " + MOST + " " + MOST + "))", 3, 1);
        s.tells("(eval (+ " + MOST + " 0))", MOST);
        s.tells("(eval (+ 4611686018427387902 1))", MOST);
        s.fails("(eval (car (cons 1 (+ 2 " + MOST + "))))", 3, 3);
        s.tells("(defun inc (x) (+ x 1))", "");
        s.fails("(map inc (1 2 " + MOST + " 4))", 3, 6);
        s.tells("(map inc (1 2 a))", "(2 3 1)");
    }
}
