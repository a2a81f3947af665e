/**
 * Promise 5 and the sentences of COMMANDS that name a boundary case: the ANSWERS, the order in
 * which they are asked, and of each command what stands in brackets.
 */
public final class CommandBoundsTest {
    private static final String MOST = "4611686018427387903";
    private static final String[] RESERVED = {"quote", "nil", "t", "if", "equal", "cons", "implies", "+", "-",
        "<", "consp", "car", "cdr", "natp", "symbolp", "height", "not"};
    private static final String[] COMMANDS = {"eval", "with", "map", "defun", "redo", "undo", "show"};
    private static final String[] COMPLETE = {"(eval 1)", "(with () 1)", "(map f ())", "(defun g () 1)",
        "(redo f (x) x)", "(undo)", "(show f)"};

    public static void main(String[] args) {
        textIsEmptyThen();
        partsOfCommands();
        commandsAreLists();
        namesOfFunctions();
        evalWithoutVariables();
        withPerhapsNone();
        withDifferentVariables();
        mapOfWhatIsDefined();
        mapOfLists();
        defunPerhapsNoneAtMostSix();
        defunDifferentVariables();
        defunAlready();
        fortyAre();
        redoAsMany();
        redoIsNotDefined();
        undoIfNoOtherCalls();
        undoOfNone();
        showElse();
        orderOfAnswers();
        refusedCommandsChangeNothing();
        Session.finish();
    }

    private static Session withF() {
        Session s = new Session();
        s.tells("(defun f (x) x)", "");
        return s;
    }

    /** "The TEXT, which is empty then, is read and done: the ANSWER." */
    private static void textIsEmptyThen() {
        Session s = new Session();
        for (int i = 0; i < 40; i++) {
            s.run("(defun f" + i + " () 1)");
        }
        String[] texts = {"(eval 1)", "(", "(eval x)", "(show g)", "(eval (+ 1 " + MOST + "))", "(defun g () 1)", ""};
        int[] answers = {0, 1, 2, 3, 4, 8, 1};
        for (int i = 0; i < texts.length; i++) {
            Session.same(texts[i] + " answers", s.run(texts[i]), answers[i]);
            Session.same("the TEXT behind " + texts[i], s.machine.end(0), 0);
            s.misreads("", 3, 0);
            Session.same(texts[i] + " answers again", s.run(texts[i]), answers[i]);
            s.tells("(eval 2)", "2");
        }
    }

    /** "2 it is none of these": each command with a part less, and with one more. */
    private static void partsOfCommands() {
        for (int i = 0; i < COMMANDS.length; i++) {
            Session s = withF();
            String whole = COMPLETE[i];
            s.refuses(whole.substring(0, whole.length() - 1) + " 1)", 2);
            s.refuses(whole.substring(0, whole.length() - 1) + " . 1)", 2);
            s.refuses(whole.substring(0, whole.length() - 1) + " ())", 2);
            String less = "(" + COMMANDS[i] + ")";
            if (!less.equals(whole)) {
                s.refuses(less, 2);
                s.refuses("(" + COMMANDS[i] + " . 1)", 2);
            }
            Session.same(whole + " answers", s.run(whole), 0);
        }
        Session s = withF();
        for (String text : new String[] {"(with ())", "(map f)", "(defun g)", "(defun g ())", "(redo f)", "(redo f (x))"}) {
            s.refuses(text, 2);
        }
    }

    /** "one list that is one of these" */
    private static void commandsAreLists() {
        Session s = withF();
        String[] none = {"eval", "undo", "0", "nil", "()", "t", "'eval", "'(undo)", "((undo))", "(undo . undo)",
            "(f 1)", "(car 1)", "(quote 1)", "(1)", "(nil)", "(evals 1)", "(eva 1)", "((eval) 1)", "('eval 1)"};
        for (String text : none) {
            s.refuses(text, 2);
        }
        s.tells("(undo . ())", "");
        s.tells("(eval . (1 . ()))", "1");
    }

    /** "f is a symbol that is not RESERVED" */
    private static void namesOfFunctions() {
        for (String name : RESERVED) {
            Session s = withF();
            s.refuses("(defun " + name + " (x) x)", 2);
            s.refuses("(redo " + name + " (x) x)", 2);
            s.refuses("(map " + name + " (1))", 2);
            s.refuses("(show " + name + ")", 2);
        }
        Session s = withF();
        for (String name : new String[] {"0", MOST, "()", "(f)", "'f", "(f . g)"}) {
            s.refuses("(defun " + name + " (x) x)", 2);
            s.refuses("(redo " + name + " (x) x)", 2);
            s.refuses("(map " + name + " (1))", 2);
            s.refuses("(show " + name + ")", 2);
        }
        // Names next to RESERVED ones, and those of commands, are free.
        for (String name : new String[] {"nill", "ni", "tt", "quot", "ifs", "i", "++", "--", "<<", ">", "nots", "caar"}) {
            free(name);
        }
        for (String name : COMMANDS) {
            free(name);
        }
    }

    private static void free(String name) {
        Session s = new Session();
        s.refuses("(show " + name + ")", 3);
        s.refuses("(map " + name + " ())", 3);
        s.refuses("(redo " + name + " (x) x)", 3);
        s.tells("(defun " + name + " (x) (cons x x))", "");
        s.tells("(eval (" + name + " 1))", "(1 . 1)");
        s.tells("(map " + name + " (1))", "((1 . 1))");
        s.tells("(redo " + name + " (x) x)", "");
        s.tells("(show " + name + ")", "(defun " + name + " (x) x)");
        s.tells("(undo)", "");
    }

    /** "(eval T), T without variables" */
    private static void evalWithoutVariables() {
        Session s = withF();
        for (String term : new String[] {"x", "f", "quote", "car", "(f x)", "(cons 1 x)", "(cons x 1)", "(if 1 1 x)",
            "(if 1 1 (f (f x)))"}) {
            s.refuses("(eval " + term + ")", 2);
            s.refuses("(with () " + term + ")", 2);
        }
        s.tells("(eval 'x)", "x");
        s.tells("(eval (f 'x))", "x");
        s.tells("(eval '(f x))", "(f x)");
    }

    /** "the x different variables, perhaps none, the V objects" */
    private static void withPerhapsNone() {
        Session s = new Session();
        s.tells("(with () 1)", "1");
        s.tells("(with nil 1)", "1");
        s.tells("(with ((x 1)) x)", "1");
        s.tells("(with ((x 1)) 2)", "2");
        s.tells("(with ((x 1) (y 2)) (cons y x))", "(2 . 1)");
        s.tells("(with ((x y) (y x)) (cons x y))", "(y . x)");
        s.tells("(with ((x (+ 1 1))) x)", "(+ 1 1)");
        s.tells("(with ((x nil)) (cons x x))", "(nil)");
        s.refuses("(with t 1)", 2);
        s.refuses("(with 0 1)", 2);
        s.refuses("(with (()) 1)", 2);
        s.refuses("(with ((x)) 1)", 2);
        s.refuses("(with ((x . 1)) 1)", 2);
        s.refuses("(with ((x 1 2)) 1)", 2);
        s.refuses("(with ((x 1 . 2)) 1)", 2);
        s.refuses("(with (x 1) x)", 2);
        s.refuses("(with ((x 1) . 2) x)", 2);
        s.refuses("(with ((x 1) y) x)", 2);
        // As many variables as a text has words for: ( with ( ) x0 ) are six, and each has four.
        StringBuilder bindings = new StringBuilder();
        for (int i = 0; i < 248; i++) {
            bindings.append("(x").append(i).append(' ').append(i % 7).append(')');
        }
        new Session().tells("(with(" + bindings + ")x247)", "2");
        new Session().tells("(with(" + bindings + ")x0)", "0");
        new Session().refuses("(with(" + bindings + ")x248)", 2);
    }

    private static void withDifferentVariables() {
        Session s = new Session();
        s.refuses("(with ((x 1) (x 1)) 1)", 2);
        s.refuses("(with ((x 1) (x 2)) x)", 2);
        s.refuses("(with ((x 1) (y 2) (x 3)) y)", 2);
        s.refuses("(with ((x 1) (y 2) (y 3)) x)", 2);
        s.tells("(with ((x 1) (xx 2) (xxx 3)) (cons x (cons xx xxx)))", "(1 2 . 3)");
        s.refuses("(with ((x 1)) xx)", 2);
        s.refuses("(with ((x 1)) (cons x y))", 2);
        s.refuses("(with ((x 1) (y 2)) z)", 2);
    }

    /** "f DEFINED, taking one term (another one that is a function: 2; none: 3)" */
    private static void mapOfWhatIsDefined() {
        String parameters = " a b c d e f";
        for (int takes = 0; takes <= 6; takes++) {
            Session s = new Session();
            s.refuses("(map g (1))", 3);
            s.tells("(defun g (" + parameters.substring(0, 2 * takes) + ") 7)", "");
            if (takes == 1) {
                s.tells("(map g (1))", "(7)");
                s.tells("(map g ())", "nil");
            } else {
                s.refuses("(map g (1))", 2);
                s.refuses("(map g ())", 2);
            }
            s.tells("(undo)", "");
            s.refuses("(map g (1))", 3);
            s.refuses("(map g ())", 3);
            s.refuses("(map g 1)", 2);
        }
    }

    /** "V a list: OUT the list of f's values, its parameter having each element of V" */
    private static void mapOfLists() {
        Session s = withF();
        s.tells("(map f ())", "nil");
        s.tells("(map f nil)", "nil");
        s.tells("(map f (()))", "(nil)");
        s.tells("(map f (1))", "(1)");
        s.tells("(map f (x (f x) 'x nil t))", "(x (f x) 'x nil t)");
        s.tells("(map f (1 . (2 . nil)))", "(1 2)");
        s.tells("(map f 'x)", "'x");
        s.tells("(map f ''x)", "''x");
        for (String none : new String[] {"t", "0", "x", "(1 . 2)", "(1 2 . x)", "(1 . t)"}) {
            s.refuses("(map f " + none + ")", 2);
        }
        s.tells("(redo f (x) (if (natp x) (+ x 1) (cons x nil)))", "");
        s.tells("(map f (0 a (b) 5))", "(1 (a) ((b)) 6)");
        Session.same("steps of map", s.machine.steps(), 16);
        // ( map f ( ) ) are six words, so a list has at most 994 elements.
        Session most = withF();
        Session.same("a list of 994", most.run("(map f(" + "1 ".repeat(994) + "))"), 0);
        Session.same("its steps", most.machine.steps(), 994);
        Session.same("its OUT", most.out(), "(" + "1 ".repeat(993) + "1)");
        withF().misreads("(map f(" + "1 ".repeat(995) + "))", 5, 7 + 2 * 995 + 1);
    }

    /** "the x different variables, at most 6"; "(x ..)" of none */
    private static void defunPerhapsNoneAtMostSix() {
        String[] names = {"a", "b", "c", "d", "e", "f", "g", "h"};
        for (int count = 0; count <= 8; count++) {
            Session s = new Session();
            StringBuilder parameters = new StringBuilder();
            StringBuilder values = new StringBuilder();
            String body = "nil";
            StringBuilder told = new StringBuilder();
            for (int i = 0; i < count; i++) {
                parameters.append(i == 0 ? "" : " ").append(names[i]);
                values.append(' ').append(i + 1);
                told.append(i == 0 ? "" : " ").append(i + 1);
            }
            for (int i = count - 1; i >= 0; i--) {
                body = "(cons " + names[i] + " " + body + ")";
            }
            String definition = "(defun k (" + parameters + ") " + body + ")";
            if (count <= 6) {
                s.tells(definition, "");
                s.tells("(eval (k" + values + "))", count == 0 ? "nil" : "(" + told + ")");
                s.tells("(show k)", count == 0 ? "(defun k nil nil)" : definition);
                s.tells("(redo k (" + parameters + ") " + body + ")", "");
                s.tells("(eval (k" + values + "))", count == 0 ? "nil" : "(" + told + ")");
            } else {
                s.refuses(definition, 2);
                s.refuses("(redo k (" + parameters + ") " + body + ")", 2);
                s.refuses("(show k)", 3);
            }
        }
        Session s = new Session();
        s.tells("(defun k nil 1)", "");
        s.refuses("(defun l t 1)", 2);
        s.refuses("(defun l 0 1)", 2);
        s.refuses("(defun l x 1)", 2);
        s.refuses("(defun l (x . y) 1)", 2);
        s.refuses("(defun l (a b c d e f . g) 1)", 2);
    }

    private static void defunDifferentVariables() {
        String[] names = {"a", "b", "c", "d", "e", "f"};
        for (int i = 0; i < 6; i++) {
            Session s = new Session();
            for (int j = 0; j < 6; j++) {
                String[] some = names.clone();
                some[j] = names[i];
                String definition = "(defun k (" + String.join(" ", some) + ") 1)";
                if (i == j) {
                    s.tells(definition, "");
                    s.tells("(undo)", "");
                } else {
                    s.refuses(definition, 2);
                }
            }
        }
        Session s = new Session();
        // "T with these variables alone, f being a function of so many terms in it"
        s.refuses("(defun k () x)", 2);
        s.refuses("(defun k (x) y)", 2);
        s.refuses("(defun k (x y) z)", 2);
        s.refuses("(defun k (x) (k))", 2);
        s.refuses("(defun k (x) (k x x))", 2);
        s.refuses("(defun k () (k 1))", 2);
        s.refuses("(defun k (x) (l x))", 2);
        s.refuses("(defun k (x) k)", 2);
        s.tells("(defun k (k) k)", "");
        s.tells("(eval (k 1))", "1");
        s.tells("(defun l () (l))", "");
        s.tells("(defun m (a b c d e f) (m a b c d e f))", "");
    }

    /** "f is DEFINED already: 3" */
    private static void defunAlready() {
        Session s = withF();
        s.refuses("(defun f (x) x)", 3);
        s.refuses("(defun f () 1)", 3);
        s.refuses("(defun f (x y) (f x y))", 3);
        s.refuses("(defun f (x y) (f x))", 2);
        s.tells("(show f)", "(defun f (x) x)");
        s.tells("(redo f (x) 1)", "");
        s.refuses("(defun f (x) x)", 3);
        s.tells("(undo)", "");
        s.tells("(defun f (x y) (f x y))", "");
        s.refuses("(defun f (x) x)", 3);
    }

    /** "40 are: 8" */
    private static void fortyAre() {
        Session s = new Session();
        for (int i = 0; i < 39; i++) {
            s.run("(defun f" + i + " () 1)");
        }
        s.tells("(defun g () (f38))", "");
        Session.same("functions", s.machine.functions(), 40);
        s.refuses("(defun h () 1)", 8);
        s.refuses("(defun h () (h))", 8);
        s.refuses("(defun g () 1)", 3);
        s.refuses("(defun f0 () 1)", 3);
        s.refuses("(defun h () (i))", 2);
        s.refuses("(show h)", 3);
        s.refuses("(eval (h))", 2);
        s.tells("(redo f0 () (g))", "");
        s.refuses("(undo)", 3);
        s.tells("(redo f0 () 2)", "");
        s.tells("(undo)", "");
        Session.same("functions", s.machine.functions(), 39);
        s.tells("(defun h () (f0))", "");
        s.refuses("(defun i () 1)", 8);
        s.tells("(eval (cons (h) (f38)))", "(2 . 1)");
    }

    /** "f is DEFINED, with as many x (2 otherwise ..)" */
    private static void redoAsMany() {
        String parameters = " a b c d e f g";
        for (int takes = 0; takes <= 6; takes++) {
            Session s = new Session();
            s.tells("(defun k (" + parameters.substring(0, 2 * takes) + ") 7)", "");
            for (int count = 0; count <= 7; count++) {
                String redo = "(redo k (" + parameters.substring(0, 2 * count) + ") 8)";
                if (count == takes) {
                    s.tells(redo, "");
                } else {
                    s.refuses(redo, 2);
                }
            }
            s.tells("(eval (k" + " 1".repeat(takes) + "))", "8");
        }
        Session s = withF();
        s.refuses("(redo f (x) (f))", 2);
        s.refuses("(redo f (x) y)", 2);
        s.refuses("(redo f (x x) 1)", 2);
        s.refuses("(redo f () (f))", 2);
        s.tells("(redo f (y) (if (consp y) (f (cdr y)) y))", "");
        s.tells("(show f)", "(defun f (y) (if (consp y) (f (cdr y)) y))");
        s.tells("(eval (f '(1 2 . 3)))", "3");
    }

    /** ".. 3 if it isn't DEFINED" */
    private static void redoIsNotDefined() {
        Session s = new Session();
        s.refuses("(redo f (x) x)", 3);
        s.refuses("(redo f () (f))", 3);
        s.refuses("(redo f (x) (f))", 2);
        s.refuses("(redo f (x) y)", 2);
        Session.same("functions", s.machine.functions(), 0);
        s.tells("(defun f (x) x)", "");
        s.tells("(redo f (x) 1)", "");
        s.tells("(undo)", "");
        s.refuses("(redo f (x) 1)", 3);
    }

    /** "the function that was DEFINED last is gone, if no other one calls it (some does ..: 3)" */
    private static void undoIfNoOtherCalls() {
        Session s = withF();
        s.tells("(defun g (x) (g (f x)))", "");
        s.tells("(undo)", "");
        s.refuses("(eval (g 1))", 2);
        s.tells("(defun g (x) x)", "");
        String[] calls = {"(g x)", "(g 1)", "(not (g x))", "(if x x (g x))", "(cons 1 (cons 2 (g (f x))))", "(f (g x))"};
        for (String body : calls) {
            s.tells("(redo f (x) " + body + ")", "");
            s.refuses("(undo)", 3);
            Session.same("functions", s.machine.functions(), 2);
        }
        s.tells("(redo g (x) (g x))", "");
        s.refuses("(undo)", 3);
        for (String body : new String[] {"x", "'g", "'(g x)", "'(1 (g x))", "(cons 'g '(g))"}) {
            s.tells("(redo f (x) " + body + ")", "");
            s.tells("(undo)", "");
            s.refuses("(show g)", 3);
            s.tells("(defun g (x) x)", "");
        }
        s.tells("(redo f (g) (cons g g))", "");
        s.tells("(undo)", "");
        threeFunctions();
    }

    private static void threeFunctions() {
        Session s = new Session();
        s.tells("(defun a () 1)", "");
        s.tells("(defun b () (a))", "");
        s.tells("(defun c () (b))", "");
        s.tells("(redo a () (c))", "");
        s.refuses("(undo)", 3);
        s.tells("(redo a () (b))", "");
        s.tells("(undo)", "");
        // Now b is the last one, which a calls.
        s.refuses("(undo)", 3);
        s.tells("(redo a () 2)", "");
        s.tells("(undo)", "");
        s.tells("(eval (a))", "2");
        s.tells("(undo)", "");
        s.refuses("(undo)", 3);
    }

    /** "(.. or there is none: 3)" */
    private static void undoOfNone() {
        Session s = new Session();
        s.refuses("(undo)", 3);
        s.refuses("(undo)", 3);
        s.refuses("(undo 1)", 2);
        s.refuses("(undo . 1)", 2);
        s.tells("(defun f () (f))", "");
        s.tells("(undo)", "");
        s.refuses("(undo)", 3);
    }

    /** "(show f): f DEFINED (else 3)" */
    private static void showElse() {
        Session s = new Session();
        s.refuses("(show f)", 3);
        s.tells("(defun f () 1)", "");
        s.tells("(show f)", "(defun f nil 1)");
        s.refuses("(show ff)", 3);
        s.refuses("(show show)", 3);
        s.tells("(undo)", "");
        s.refuses("(show f)", 3);
        // The longest of names, and a definition of exactly 2000 characters and of one more.
        for (int more = -2; more <= 3; more++) {
            Session t = new Session();
            String shown = "(defun abcdefghijk (x) '(" + "abcdefghi ".repeat(197) + "z".repeat(3 + more) + "))";
            Session.same("the length of a definition", shown.length(), 2000 + more);
            t.tells(shown, "");
            t.tells("(show abcdefghijk)", shown.substring(0, Math.min(2000, shown.length())));
        }
    }

    /** "(asked in this order, 1, 2, 3, 8)" */
    private static void orderOfAnswers() {
        Session s = new Session();
        for (int i = 0; i < 40; i++) {
            s.run("(defun f" + i + " (x) x)");
        }
        // 1 ahead of 2, 3 and 8.
        s.misreads("(defun f0 (x x) y", 3, 17);
        s.misreads("(defun g (x) x) #", 1, 16);
        s.misreads("(undo 1", 3, 7);
        // 2 ahead of 3 and 8.
        s.refuses("(defun f0 (x x) x)", 2);
        s.refuses("(defun f0 (x) y)", 2);
        s.refuses("(defun g (x) y)", 2);
        s.refuses("(redo g (x) y)", 2);
        s.refuses("(map g x)", 2);
        s.refuses("(show g g)", 2);
        s.refuses("(defun f0 (x) (g x))", 2);
        // 3 ahead of 8.
        s.refuses("(defun f0 (x) x)", 3);
        s.refuses("(defun f39 (x) x)", 3);
        s.refuses("(defun g (x) x)", 8);
        // All of them ahead of 4, and no steps are made.
        s.refuses("(eval (cons (+ 1 " + MOST + ") x))", 2);
        s.refuses("(eval (cons (+ 1 " + MOST + ") (g 1)))", 2);
        s.refuses("(map g (1))", 3);
        s.fails("(eval (cons (+ 1 " + MOST + ") (f0 1)))", 3, 2);
    }

    private static void refusedCommandsChangeNothing() {
        Session s = withF();
        s.tells("(defun g (x) (f x))", "");
        String[] refused = {"(", "(undo 1)", "(defun f (x) 1)", "(defun h (x) y)", "(redo f () 1)", "(redo f (x) y)",
            "(redo h (x) x)", "(show h)", "(map h ())", "(eval x)", "(eval (+ 1 " + MOST + "))", "(defun h (x x) 1)"};
        for (String text : refused) {
            s.run(text);
            Session.same("functions behind " + text, s.machine.functions(), 2);
            s.tells("(show f)", "(defun f (x) x)");
            s.tells("(show g)", "(defun g (x) (f x))");
        }
        s.tells("(undo)", "");
        s.tells("(undo)", "");
        s.refuses("(undo)", 3);
    }
}
