/** COMMANDS, their ANSWERS and the order in which these are asked. */
public final class CommandsTest {
    public static void main(String[] args) {
        noCommand();
        eval();
        with();
        map();
        defun();
        defunNames();
        redo();
        undo();
        show();
        room();
        Session.finish();
    }

    private static void noCommand() {
        Session s = new Session();
        String[] wrong = {"a", "5", "nil", "()", "'a", "(a)", "(quote eval)", "((eval) 1)", "(1 2)",
            "(car 1)", "(nil)", "(eval . 1)", "(eval 1 . 2)", "(undo . 1)", "(undo 1)", "undo"};
        for (String text : wrong) {
            s.refuses(text, 2);
        }
    }

    private static void eval() {
        Session s = new Session();
        s.refuses("(eval)", 2);
        s.refuses("(eval 1 2)", 2);
        s.refuses("(eval x)", 2);
        s.tells("(eval . (1))", "1");
        s.tells("(eval ''a)", "'a");
        // Names of commands are not reserved.
        s.tells("(defun eval (x) (cons x x))", "");
        s.tells("(eval (eval 1))", "(1 . 1)");
    }

    private static void with() {
        Session s = new Session();
        s.tells("(with () 5)", "5");
        s.tells("(with nil 5)", "5");
        s.tells("(with ((x (car y))) x)", "(car y)");
        s.tells("(with ((x 'a)) x)", "'a");
        s.tells("(with ((x 1) (y 2) (z ())) (cons z (cons y x)))", "(nil 2 . 1)");
        s.tells("(with ((x 1) (y 2)) 3)", "3");
        s.tells("(with ('a) quote)", "a");
        s.tells("(with ((x . (1))) x)", "1");
        String[] wrong = {"(with)", "(with ())", "(with () 1 2)", "(with x 1)", "(with (x) 1)",
            "(with ((x)) 1)", "(with ((x 1 2)) 1)", "(with ((x . 1)) 1)", "(with ((x 1) . y) 1)",
            "(with ((x 1) (x 1)) x)", "(with ((x 1) (y 2) (x 3)) y)", "(with ((nil 1)) 1)",
            "(with ((t 1)) 1)", "(with ((5 1)) 1)", "(with (((x) 1)) 1)", "(with ((x 1)) y)",
            "(with ((x 1)) (car x y))", "(with ((x 1)) (cons x y))", "(with () x)", "(with 5 1)"};
        for (String text : wrong) {
            s.refuses(text, 2);
        }
        StringBuilder many = new StringBuilder();
        for (int i = 0; i < 197; i++) {
            many.append("(x").append(i).append(' ').append(i).append(')');
        }
        new Session().tells("(with (" + many + ") (cons x0 (cons x99 x196)))", "(0 99 . 196)");
        new Session().refuses("(with (" + many + "(x0 1)) x0)", 2);
    }

    private static void map() {
        Session s = new Session();
        s.tells("(defun dup (x) (cons x x))", "");
        s.tells("(defun two (x y) x)", "");
        s.tells("(defun zero () 1)", "");
        s.tells("(map dup (a (b) nil 1))", "((a . a) ((b) b) (nil) (1 . 1))");
        Session.same("steps of map", s.machine.steps(), 8);
        s.tells("(map dup ())", "nil");
        Session.same("steps of map of none", s.machine.steps(), 0);
        s.tells("(map dup 'a)", "((quote . quote) (a . a))");
        s.tells("(defun id (x) x)", "");
        s.tells("(map id (quote x))", "'x");
        s.tells("(map id ('x))", "('x)");
        s.refuses("(map)", 2);
        s.refuses("(map dup)", 2);
        s.refuses("(map dup (1) 2)", 2);
        s.refuses("(map dup 1)", 2);
        s.refuses("(map dup (1 . 2))", 2);
        s.refuses("(map two (1))", 2);
        s.refuses("(map zero (1))", 2);
        s.refuses("(map two ())", 2);
        s.refuses("(map car (1))", 2);
        s.refuses("(map cons (1))", 2);
        s.refuses("(map quote (1))", 2);
        s.refuses("(map nil (1))", 2);
        s.refuses("(map 5 (1))", 2);
        s.refuses("(map (dup) (1))", 2);
        s.refuses("(map none (1))", 3);
        s.refuses("(map none ())", 3);
        s.refuses("(map none 1)", 2);
        s.refuses("(map eval (1))", 3);
        new Session().refuses("(map f (1))", 3);
        longMap();
    }

    private static void longMap() {
        Session s = new Session();
        s.tells("(defun f (x) x)", "");
        String elements = "1 2 3 ".repeat(331).trim();
        s.tells("(map f (" + elements + "))", ("(" + elements + ")").substring(0, 1987));
        Session.same("steps of a long map", s.machine.steps(), 993);
        s.machine.fuel(992);
        s.fails("(map f (" + "1 ".repeat(993) + "))", 1, 992);
    }

    private static void defun() {
        Session s = new Session();
        s.tells("(defun f (x) (if (consp x) (f (cdr x)) x))", "");
        s.tells("(eval (f '(a b . c)))", "c");
        s.tells("(defun g () 1)", "");
        s.tells("(defun h nil 2)", "");
        s.tells("(eval (+ (g) (h)))", "3");
        s.tells("(defun six (a b c d e f) f)", "");
        s.tells("(defun names (car quote f) (cons car (cons quote f)))", "");
        s.tells("(eval (names 1 2 3))", "(1 2 . 3)");
        String[] wrong = {"(defun)", "(defun k)", "(defun k ())", "(defun k () 1 2)", "(defun 5 () 1)",
            "(defun (k) () 1)", "(defun k x 1)", "(defun k (x . y) 1)", "(defun k (x x) 1)",
            "(defun k (x y x) 1)", "(defun k (nil) 1)", "(defun k (t) 1)", "(defun k (1) 1)",
            "(defun k ((x)) 1)", "(defun k (a b c d e f g) 1)", "(defun k (x) y)", "(defun k () x)",
            "(defun k (x) (k))", "(defun k (x) (k x x))", "(defun k (x) (unknown x))",
            "(defun k (x) (car x x))", "(defun k (x) (car . x))", "(defun k (x) (car k))"};
        for (String text : wrong) {
            s.refuses(text, 2);
        }
        s.refuses("(show k)", 3);
    }

    private static void defunNames() {
        Session s = new Session();
        String[] reserved = {"quote", "nil", "t", "if", "equal", "cons", "implies", "+", "-", "<",
            "consp", "car", "cdr", "natp", "symbolp", "height", "not"};
        for (String name : reserved) {
            s.refuses("(defun " + name + " (x) x)", 2);
        }
        s.tells("(defun defun (x) x)", "");
        s.tells("(defun map (map) (cons map map))", "");
        s.tells("(map map (1))", "((1 . 1))");
        // Taken names come behind all that is not as told, f having the new number of terms.
        s.tells("(defun f (x) x)", "");
        s.refuses("(defun f (x) x)", 3);
        s.refuses("(defun f (x y) (f x y))", 3);
        s.refuses("(defun f (x y) (f x))", 2);
        s.refuses("(defun f (x x) x)", 2);
        s.refuses("(defun f () y)", 2);
        s.tells("(show f)", "(defun f (x) x)");
    }

    private static void redo() {
        Session s = new Session();
        s.tells("(defun f (x) x)", "");
        s.tells("(defun g (x) (f (cons x x)))", "");
        s.tells("(redo f (y) (cons y '(1 2)))", "");
        s.tells("(eval (g 1))", "((1 . 1) 1 2)");
        s.tells("(redo f (z) (if (consp z) (f (car z)) z))", "");
        s.tells("(eval (g 1))", "1");
        s.tells("(redo f (x) (g x))", "");
        // f and g open two calls in three steps: 299 are open behind 448, and g is the 300th.
        s.fails("(eval (f 1))", 2, 449);
        s.refuses("(redo f () 1)", 2);
        s.refuses("(redo f (x y) 1)", 2);
        s.refuses("(redo f (x y) (f x y))", 2);
        s.refuses("(redo f (x) y)", 2);
        s.refuses("(redo f (x))", 2);
        s.refuses("(redo f (x) 1 2)", 2);
        s.refuses("(redo car (x) x)", 2);
        s.refuses("(redo nil (x) x)", 2);
        s.refuses("(redo 5 (x) x)", 2);
        s.refuses("(redo k (x) x)", 3);
        s.refuses("(redo k (x) (k x))", 3);
        s.refuses("(redo k (x) (k))", 2);
        s.refuses("(redo k (x x) 1)", 2);
        s.tells("(show f)", "(defun f (x) (g x))");
        // Parameters in another order are other parameters.
        s.tells("(defun two (x y) (cons x y))", "");
        s.tells("(redo two (y x) (cons x y))", "");
        s.tells("(eval (two 1 2))", "(2 . 1)");
    }

    private static void undo() {
        Session s = new Session();
        s.refuses("(undo)", 3);
        s.tells("(defun f (x) (f x))", "");
        s.tells("(defun g (x) (f x))", "");
        s.refuses("(undo 1)", 2);
        s.tells("(undo)", "");
        s.refuses("(show g)", 3);
        s.tells("(defun g (x) x)", "");
        // The order is that of defun: a redo of f does not make it the last one.
        s.tells("(redo f (x) (not (cons 1 (g x))))", "");
        s.refuses("(undo)", 3);
        Session.same("functions", s.machine.functions(), 2);
        s.tells("(eval (f 1))", "nil");
        s.tells("(redo f (x) (cons x '(g x)))", "");
        s.tells("(undo)", "");
        s.refuses("(show g)", 3);
        s.tells("(eval (f 2))", "(2 g x)");
        // A function's own calls don't hold it, nor variables of its name.
        s.tells("(redo f (g) (f g))", "");
        s.tells("(defun g (x) (g x))", "");
        s.tells("(undo)", "");
        s.tells("(undo)", "");
        s.refuses("(undo)", 3);
        Session.same("functions", s.machine.functions(), 0);
    }

    private static void show() {
        Session s = new Session();
        shows(s, "(defun f (x y) (cons x (f y 1)))");
        s.tells("(defun g () '5)", "");
        s.tells("(show g)", "(defun g nil 5)");
        s.tells("(defun h (x) (if '() (cons 't (quote nil)) (cons '(quote 5) (cons ''nil '(1 . 2)))))", "");
        s.tells("(show h)", "(defun h (x) (if nil (cons t nil) (cons ''5 (cons ''nil '(1 . 2)))))");
        shows(s, "(defun k (quote) quote)");
        s.tells("(defun l (quote x) (cons quote x))", "");
        s.tells("(show l)", "(defun l 'x (cons quote x))");
        shows(s, "(defun m (a b c d e f) (if (consp a) (m b c d e f (cdr a)) (cons 'x (cons 'y ''z))))");
        shows(s, "(defun n (x) 'x)");
        s.tells("(defun o (x) (cons (cons '1 '2) (cons (car '3) (if '4 x 'u))))", "");
        s.tells("(show o)", "(defun o (x) (cons (cons 1 2) (cons (car 3) (if 4 x 'u))))");
        s.refuses("(show)", 2);
        s.refuses("(show f g)", 2);
        s.refuses("(show car)", 2);
        s.refuses("(show quote)", 2);
        s.refuses("(show 5)", 2);
        s.refuses("(show (f))", 2);
        s.refuses("(show none)", 3);
        s.refuses("(show defun)", 3);
        longShow();
    }

    private static void shows(Session s, String definition) {
        s.tells(definition, "");
        s.tells("(show " + definition.split(" ")[1] + ")", definition);
    }

    private static void longShow() {
        Session s = new Session();
        String constant = "'(" + "abcdefg ".repeat(260) + ")";
        s.tells("(defun f (x) (cons x " + constant + "))", "");
        s.tells("(show f)", ("(defun f (x) (cons x " + constant).substring(0, 2000));
    }

    private static void room() {
        Session s = new Session();
        for (int i = 0; i < 40; i++) {
            s.tells("(defun f" + i + " (x) '" + i + ")", "");
        }
        Session.same("functions", s.machine.functions(), 40);
        s.refuses("(defun g (x) x)", 8);
        s.refuses("(defun f7 (x) x)", 3);
        s.refuses("(defun g (x) y)", 2);
        s.refuses("(redo g (x) x)", 3);
        s.tells("(redo f7 (x) (f39 x))", "");
        s.tells("(eval (cons (f7 0) (f8 0)))", "(39 . 8)");
        s.refuses("(undo)", 3);
        s.tells("(redo f7 (x) x)", "");
        s.tells("(undo)", "");
        s.tells("(defun g (x) x)", "");
        s.refuses("(defun h (x) x)", 8);
        s.tells("(map f38 (1 2))", "(38 38)");
    }
}
