/** How objects are TOLD, and OUT's 2000 characters. */
public final class TellingTest {
    public static void main(String[] args) {
        objects();
        hugeObjects();
        Session.finish();
    }

    private static void objects() {
        Session s = new Session();
        s.tells("(eval '(quote))", "(quote)");
        s.tells("(eval '(quote a b))", "(quote a b)");
        s.tells("(eval '(quote . a))", "(quote . a)");
        s.tells("(eval '(quote a . b))", "(quote a . b)");
        s.tells("(eval '(quote quote a))", "(quote quote a)");
        s.tells("(eval '(quote (quote a)))", "''a");
        s.tells("(eval (cons 'quote (cons 5 nil)))", "'5");
        s.tells("(eval '(a quote b))", "(a quote b)");
        s.tells("(eval '((a) (b . 1) . 2))", "((a) (b . 1) . 2)");
        s.tells("(eval '(() t))", "(nil t)");
        s.tells("(eval (+ 999999999999999999 1))", "1000000000000000000");
        s.tells("(eval (- 1000000000000000000 1))", "999999999999999999");
        s.tells("(eval '(10 100 1001 0))", "(10 100 1001 0)");
        s.tells("(eval 'a)", "a");
        s.tells("(eval '(((a))))", "(((a)))");
    }

    private static void hugeObjects() {
        Session s = new Session();
        s.tells("(defun grow (x n) (if (equal n 0) x (grow (cons x x) (- n 1))))", "");
        // A tree of 2^80 leaves, which sharing keeps small.
        same2000(s, "(eval (grow 'a 80))", "(".repeat(80) + "a . a) a . a) (a . a) a");
        s.tells("(eval (equal (grow 'a 70) (grow 'a 70)))", "t");
        s.tells("(eval (equal (grow 'a 70) (grow 'b 70)))", "nil");
        s.tells("(eval (height (grow 'a 70)))", "70");
        s.tells("(defun left (x n) (if (equal n 0) x (left (cons x nil) (- n 1))))", "");
        s.tells("(eval (left 'a 3))", "(((a)))");
        s.tells("(eval (left 'a 73))", "(".repeat(73) + "a" + ")".repeat(73));
        s.tells("(defun more (x) (cons (cons (cons (cons (cons (cons (cons (cons (cons (cons x 1) 2)"
                + " 3) 4) 5) 6) 7) 8) 9) 0))", "");
        String deep = "(more ".repeat(30) + "'a" + ")".repeat(30);
        s.run("(eval " + deep + ")");
        Session.same("the size of a deep object", s.machine.size(), 300 + 1 + 300 * 5);
        exactlyFull();
    }

    private static void same2000(Session s, String text, String beginning) {
        Session.same(text + " answers", s.run(text), 0);
        Session.same(text + " size", s.machine.size(), 2000);
        Session.same(text + " begins", s.out().substring(0, beginning.length()), beginning);
        Session.same("letter(2000)", s.machine.letter(2000), LispMachine.NONE);
    }

    /** A list of 2000 characters is told whole, one of 2001 without its last one. */
    private static void exactlyFull() {
        String list = "(" + "abcdefghi ".repeat(199) + "abcdefgh)";
        Session full = new Session();
        full.tells("(eval '" + list + ")", list);
        Session.same("the size of a full OUT", full.machine.size(), 2000);
        String longer = "(" + "abcdefghi ".repeat(199) + "abcdefghi)";
        new Session().tells("(eval '" + longer + ")", longer.substring(0, 2000));
        String cut = "(" + "abcdefghi ".repeat(199) + "123 . abcdefgh)";
        new Session().tells("(eval '" + cut + ")", cut.substring(0, 2000));
    }
}
