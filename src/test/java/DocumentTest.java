import java.lang.reflect.Modifier;

/**
 * The document from its first line to its last: each sentence, word by word as it stands there,
 * with an example or two of its own. The Bounds tests have the boundary cases at length.
 */
public final class DocumentTest {
    private static final int NONE = LispMachine.NONE;
    private static final String MOST = "4611686018427387903";
    private static final String ABOVE = "4611686018427387904";

    public static void main(String[] args) {
        whatItIs();
        thePublicFace();
        objects();
        characters();
        words();
        tellingObjects();
        reading();
        faultsOfReading();
        told();
        variablesAndConstants();
        calls();
        baseValues();
        naturalsOfWork();
        sizeOfTerms();
        fuelAndFaults();
        evaluating();
        answers();
        evalAndWith();
        map();
        defun();
        redoUndoShow();
        newObjectAndFeed();
        endAndFuel();
        runAndFault();
        stepsToLetter();
        Session.finish();
    }

    private static void says(String sentence) {
        Session.about(sentence);
    }

    /** A constant of this text is told so. */
    private static void reads(String object, String due) {
        new Session().tells("(eval '" + object + ")", due);
    }

    private static void misreads(String text, int fault, int place) {
        new Session().misreads(text, fault, place);
    }

    private static void values(String... termsAndValues) {
        for (int i = 0; i < termsAndValues.length; i += 2) {
            new Session().tells("(eval " + termsAndValues[i] + ")", termsAndValues[i + 1]);
        }
    }

    private static void noTerms(String... terms) {
        for (String term : terms) {
            new Session().refuses("(eval " + term + ")", 2);
        }
    }

    private static Session having(String... definitions) {
        Session s = new Session();
        for (String definition : definitions) {
            s.tells(definition, "");
        }
        return s;
    }

    /** A list of so many zeros, whose words are two more. */
    private static String zeros(int n) {
        return "(" + "0 ".repeat(n) + ")";
    }

    private static void whatItIs() {
        says("A pure first-order Lisp: functions are told by texts, terms evaluated with fuel, "
                + "what was told can be taken back or told anew.");
        Session s = having("(defun twice (x) (+ x x))");
        s.tells("(eval (twice 4))", "8");
        s.machine.fuel(1);
        s.fails("(eval (twice 4))", 1, 1);
        s.machine.fuel(1000);
        s.tells("(redo twice (x) (cons x x))", "");
        s.tells("(eval (twice 4))", "(4 . 4)");
        s.tells("(undo)", "");
        s.refuses("(eval (twice 4))", 2);

        says("An object is used for at most 512 calls after it has been made; what later calls answer is free.");
        LispMachine x = new LispMachine();
        // 128 texts of four calls each; what the 512th call answers is promised still.
        for (int i = 0; i < 128; i++) {
            int[] words = Session.words("(eval (+ 1 " + (100 + i) + "))");
            x.feed(words[0], words[1], words[2], words[3], words[4]);
            Session.same("end of text " + i, x.end(16), 16);
            Session.same("run of text " + i, x.run(), 0);
            Session.same("letter of text " + i, x.letter(2), '0' + (101 + i) % 10);
        }
    }

    private static void thePublicFace() {
        says("The public face");
        Session.same("public and final", LispMachine.class.getModifiers(), Modifier.PUBLIC | Modifier.FINAL);
        Session.same("NONE", LispMachine.NONE, -1);
        Session.same("public methods of its own", java.util.Arrays.stream(LispMachine.class.getDeclaredMethods())
                .filter(method -> Modifier.isPublic(method.getModifiers())).count(), 9L);
        Session.same("public constructors", LispMachine.class.getConstructors().length, 1);
        Session.same("public fields", LispMachine.class.getFields().length, 1);
        Session.same("public classes inside", LispMachine.class.getClasses().length, 0);
    }

    private static void objects() {
        says("An OBJECT is a NATURAL (0 .. 2^62 - 1), a SYMBOL, or a PAIR of two objects; nil and t are symbols.");
        String[] objects = {"0", MOST, "nil", "t", "a", "zzzzzzzzzzz", "+", "0a", "(a . b)", "(0)", "(nil)", "''a"};
        String kinds = "nnsssssspppp";
        for (int i = 0; i < objects.length; i++) {
            char kind = kinds.charAt(i);
            values("(natp '" + objects[i] + ")", kind == 'n' ? "t" : "nil",
                    "(symbolp '" + objects[i] + ")", kind == 's' ? "t" : "nil",
                    "(consp '" + objects[i] + ")", kind == 'p' ? "t" : "nil");
        }

        says("A LIST is nil, or a pair whose second one is a list.");
        Session s = having("(defun same (x) x)");
        s.tells("(map same nil)", "nil");
        s.tells("(map same (a . nil))", "(a)");
        s.tells("(map same (a . (b . (c . ()))))", "(a b c)");
        s.refuses("(map same a)", 2);
        s.refuses("(map same t)", 2);
        s.refuses("(map same (a . b))", 2);
        s.refuses("(map same (a b . 0))", 2);
    }

    private static void characters() {
        says("A TEXT has at most 3000 characters, 32 .. 126 or 10.");
        Session s = new Session();
        s.tells("(eval 1)" + " ".repeat(2992), "1");
        s.text(" ".repeat(3000));
        Session.same("a 3001st", s.machine.end(1), NONE);
        for (int character = 0; character < 256; character++) {
            boolean blank = character == 32 || character == 10 || character == ';';
            boolean atom = "abcdefghijklmnopqrstuvwxyz0123456789+-*/<>=?!_".indexOf(character) >= 0;
            boolean word = "('".indexOf(character) >= 0;
            boolean misplaced = ").".indexOf(character) >= 0;
            Session one = new Session();
            one.text(String.valueOf((char) character));
            Session.same("character " + character + " answers", one.machine.run(), atom ? 2 : 1);
            int fault = atom ? 0 : blank || word || misplaced ? 3 : 1;
            Session.same("character " + character + " has fault", one.machine.fault(0), fault);
            Session.same("character " + character + " has it at", one.machine.fault(1), atom ? NONE : blank || word ? 1 : 0);
        }

        says("BLANKS are 32, 10, and a ; with all up to the line's end (or the text's).");
        s = new Session();
        s.tells(" \n(eval ; this ) is # not ' read\n 1 ) ; and the text's end", "1");
        s.tells("(eval 12;3\n)", "12");
        s.tells("(eval;;;\n;\n\n7);", "7");
        s.misreads("(eval 1 ; ) 2", 3, 13);
        s.misreads("; (eval 1)", 3, 10);
    }

    private static void words() {
        says("WORDS, each as long as can be: ( ) ' . (one character each), and ATOMS, of letters a .. z, digits and "
                + "+ - * / < > = ? ! _ : one of digits alone is a NATURAL, another one a SYMBOL of at most 11 characters.");
        reads("(abc12 12abc)", "(abc12 12abc)");
        reads("(a.b)", "(a . b)");
        reads("(a'b'c)", "(a 'b 'c)");
        reads("((a)(b)c(d))", "((a) (b) c (d))");
        reads("(1 .2)", "(1 . 2)");
        reads("(007 00 7)", "(7 0 7)");
        values("(natp '12)", "t", "(natp '1-2)", "nil", "(natp '-1)", "nil", "(symbolp '+1)", "t", "(symbolp '1_)", "t");
        for (char letter : "abcdefghijklmnopqrstuvwxyz+-*/<>=?!_".toCharArray()) {
            reads("(" + letter + letter + letter + "9" + letter + ")", "(" + letter + letter + letter + "9" + letter + ")");
        }
        reads("abcdefghijk", "abcdefghijk");
        misreads("(eval 'abcdefghijkl)", 2, 7);
        misreads("(eval 'a:b)", 1, 8);
        misreads("(eval 'A)", 1, 7);
    }

    private static void tellingObjects() {
        says("An object is told by an ATOM; ' and an object X: the list (quote X); ( and objects, perhaps none, and ) : "
                + "their list; ( and objects, at least one, . one object and ) : pairs, with that one instead of nil at the end.");
        reads("a", "a");
        values("(equal ''a '(quote a))", "t", "(car ''a)", "quote", "(cdr ''a)", "(a)", "(car '''a)", "quote");
        reads("()", "nil");
        reads("(())", "(nil)");
        values("(equal '() 'nil)", "t", "(equal '(a b) (cons 'a (cons 'b nil)))", "t");
        values("(equal '(a b . c) (cons 'a (cons 'b 'c)))", "t", "(equal '(a . (b)) '(a b))", "t", "(cdr '(a . 0))", "0");
        misreads("(eval '(. a))", 3, 8);
        misreads("(eval '(a .))", 3, 11);
        misreads("(eval '(a . b c))", 3, 14);
        misreads("(eval '(a . b . c))", 3, 14);

        says("BLANKS may stand between any two words.");
        String[] words = "( eval ' ( a ' b . ( ) ) )".split(" ");
        new Session().tells(String.join("", words), "(a 'b)");
        new Session().tells(String.join("\n", words), "(a 'b)");
        new Session().tells(String.join(" ; ) (\n", words), "(a 'b)");
    }

    private static void reading() {
        says("READING: the text must be one object, BLANKS ahead and behind.");
        misreads("", 3, 0);
        misreads("  \n ", 3, 4);
        misreads("(eval 1) (eval 2)", 3, 9);
        misreads("(eval 1)2", 3, 8);
        misreads("(eval 1))", 3, 8);
        misreads("(eval 1) .", 3, 9);
        misreads("a b", 3, 2);
        new Session().tells("\n \n(eval 1)\n \n", "1");
        // One object that is no list is read, too: it is no command.
        new Session().refuses(" 12 ", 2);
        new Session().refuses("'12", 2);
    }

    private static void faultsOfReading() {
        says("FAULTS, the first from the left, with the place where its word begins (the text's length for its end): "
                + "1 a character with which no word begins (also 32 .. 126 that are none of those above); "
                + "2 a SYMBOL of more than 11, a NATURAL above 2^62 - 1; 3 a word, or the end, that can't stand there; "
                + "4 a ( or ' that is in 40 of these that are open (a ' until its object has ended); 5 the 1001st word.");
        misreads("(eval 1 # ) ) aaaaaaaaaaaa", 1, 8);
        misreads("(eval aaaaaaaaaaaa # ) )", 2, 6);
        misreads("(eval 1)) # aaaaaaaaaaaa", 3, 8);
        misreads("(eval (car 1)", 3, 13);
        misreads("(eval ~)", 1, 6);
        misreads("(eval \u007f)", 1, 6);
        misreads("(eval \u00e9)", 1, 6);
        misreads("(eval \t1)", 1, 6);
        misreads("(eval  abcdefghijkl)", 2, 7);
        misreads("(eval " + ABOVE + ")", 2, 6);
        misreads("(eval 0" + ABOVE + ")", 2, 6);
        misreads("(eval 99999999999999999999999999999999999999)", 2, 6);
        misreads(".", 3, 0);
        misreads("(eval ')", 3, 7);
        misreads("'", 3, 1);
        reads("(".repeat(38) + ")".repeat(38), "(".repeat(37) + "nil" + ")".repeat(37));
        misreads("(".repeat(41), 4, 40);
        misreads("'".repeat(41) + "a", 4, 40);
        misreads("('".repeat(20) + "'", 4, 40);
        new Session().refuses("(eval (car " + "'a ".repeat(60) + "))", 2);
        new Session().tells("(with ((x " + zeros(989) + ")) 5)", "5");
        misreads("(with ((x " + zeros(990) + ")) 5)", 5, 1996);

        says("At one place the least number.");
        misreads("a #", 1, 2);
        misreads("a aaaaaaaaaaaa", 2, 2);
        misreads("(a . b (", 3, 7);
        misreads("(".repeat(40) + "a . b (", 3, 46);
        misreads("(" + "0 ".repeat(999) + "#", 1, 1999);
        misreads("(" + "0 ".repeat(999) + ABOVE, 2, 1999);
        misreads("(" + "0 ".repeat(997) + ") ) )", 3, 1997);
        misreads("(" + "0 ".repeat(960) + "(".repeat(39) + "(", 4, 1960);
        misreads("(" + "0 ".repeat(999) + ")", 5, 1999);
    }

    private static void told() {
        says("TOLD: NATURALS without zeros in front, symbols, the list (quote X) as ' and X, other pairs as lists, "
                + "with . and the last one if that isn't nil; one blank between (also around .).");
        reads("000123", "123");
        reads("00", "0");
        reads(MOST, MOST);
        reads("(quote a)", "'a");
        reads("(quote (quote (a)))", "''(a)");
        reads("(quote)", "(quote)");
        reads("(quote a b)", "(quote a b)");
        reads("(quote . a)", "(quote . a)");
        reads("(quote a . b)", "(quote a . b)");
        reads("(a quote b)", "(a quote b)");
        reads("(a . (b . (c . d)))", "(a b c . d)");
        reads("( a   .   nil )", "(a)");
        reads("(nil t . t)", "(nil t . t)");
        reads("((a . b) . (c . d))", "((a . b) c . d)");

        says("OUT has at most 2000 characters; what would come behind is left out.");
        // With six letters in the last but one the list has exactly 2000.
        for (int letters = 5; letters <= 8; letters++) {
            Session s = new Session();
            String list = "(" + "aaaaaaaaaaa ".repeat(165) + "b".repeat(letters) + " ccccccccccc)";
            int due = Math.min(1994 + letters, 2000);
            s.tells("(eval '" + list + ")", list.substring(0, due));
            Session.same("size", s.machine.size(), due);
            Session.same("the 2000th", s.machine.letter(1999), letters < 6 ? NONE : letters == 6 ? ')' : 'c');
            Session.same("a 2001st", s.machine.letter(2000), NONE);
        }
    }

    private static void variablesAndConstants() {
        says("A VARIABLE is a symbol but nil and t.");
        for (String name : new String[] {"x", "quote", "if", "+", "car", "eval", "defun", "x1", "1x", "tt"}) {
            new Session().tells("(with ((" + name + " 5)) " + name + ")", "5");
        }
        new Session().refuses("(with ((nil 5)) 1)", 2);
        new Session().refuses("(with ((t 5)) 1)", 2);
        new Session().refuses("(with ((7 5)) 1)", 2);

        says("A CONSTANT is a natural, nil, t, or a list (quote X); naturals, nil, t with quote are the same constants "
                + "as without it, and are told without.");
        values("12", "12", "nil", "nil", "t", "t", "'a", "a", "(quote (a b))", "(a b)", "()", "nil");
        values("(equal '12 12)", "t", "(equal 'nil nil)", "t", "(equal 't t)", "t");
        noTerms("(quote)", "(quote a b)", "(quote . a)", "(quote a . b)", "a");
        Session s = having("(defun f () (cons '12 (cons 'nil (cons 't (cons 'x (cons '(1) (cons ''1 '())))))))");
        s.tells("(show f)", "(defun f nil (cons 12 (cons nil (cons t (cons 'x (cons '(1) (cons ''1 nil)))))))");
    }

    private static void calls() {
        says("A CALL is a list of a FUNCTION's name and as many terms as it takes.");
        noTerms("(car)", "(car 1 2)", "(car . 1)", "(car 1 . 2)", "((car) 1)", "(1 2)", "('car 1)", "(nothing)",
                "(nil)", "(t 1)", "(car x)", "(car (car))");
        Session s = having("(defun none () 1)", "(defun two (a b) a)");
        s.tells("(eval (none))", "1");
        s.refuses("(eval (none 1))", 2);
        s.tells("(eval (two 1 2))", "1");
        s.refuses("(eval (two 1))", 2);
        s.refuses("(eval (two 1 2 3))", 2);
        s.refuses("(eval none)", 2);

        says("BASE functions: if 3; equal, cons, implies, +, -, < 2; consp, car, cdr, natp, symbolp, height, not 1.");
        String[] base = {"consp", "car", "cdr", "natp", "symbolp", "height", "not", "equal", "cons", "implies", "+", "-",
            "<", "if"};
        for (int i = 0; i < base.length; i++) {
            int takes = i < 7 ? 1 : i < 13 ? 2 : 3;
            for (int n = 0; n < 5; n++) {
                int answer = new Session().run("(eval (" + base[i] + " 1".repeat(n) + "))");
                Session.same(base[i] + " of " + n, answer, n == takes ? 0 : 2);
            }
        }

        says("Others are DEFINED.");
        Session.same("a new object's functions", new LispMachine().functions(), 0);
        Session.same("with two", s.machine.functions(), 2);

        says("quote, nil, t and the names of BASE functions are RESERVED.");
        for (String name : base) {
            new Session().refuses("(defun " + name + " () 1)", 2);
        }
        for (String name : new String[] {"quote", "nil", "t", "()"}) {
            new Session().refuses("(defun " + name + " () 1)", 2);
        }
    }

    private static void baseValues() {
        says("VALUES: if: the second one if the first one isn't nil, else the third one; equal t or nil; cons a pair; "
                + "car, cdr its sides, nil of what is none; consp, natp, symbolp t or nil; height 0 of what is no pair, "
                + "else 1 and the greater one of both sides' heights; not t of nil, else nil; implies nil when the first "
                + "one isn't nil and the second one is, else t; + - < of naturals, all else counting as 0: the sum; the "
                + "difference, 0 at least; t or nil.");
        values("(if t 1 2)", "1", "(if 0 1 2)", "1", "(if '(a) 1 2)", "1", "(if 'a 1 2)", "1", "(if nil 1 2)", "2");
        values("(equal 'a 'a)", "t", "(equal 'a 'b)", "nil", "(equal 0 nil)", "nil", "(equal 1 '1a)", "nil",
                "(equal '(a . (b c)) '(a b . (c)))", "t", "(equal '(a b) '(a b c))", "nil", "(equal '(a) 'a)", "nil");
        values("(cons 1 2)", "(1 . 2)", "(cons nil nil)", "(nil)", "(cons '(a) '(b))", "((a) b)");
        values("(car '(a b))", "a", "(cdr '(a b))", "(b)", "(car '(a . b))", "a", "(cdr '(a . b))", "b");
        values("(car nil)", "nil", "(cdr nil)", "nil", "(car 5)", "nil", "(cdr 'a)", "nil", "(car t)", "nil");
        values("(height 5)", "0", "(height 'a)", "0", "(height nil)", "0", "(height '(a))", "1", "(height '(a b c))", "3",
                "(height '((((a)))))", "4", "(height '(((a . b) . c) . d))", "3", "(height '((a b c d) e))", "5");
        values("(not nil)", "t", "(not t)", "nil", "(not 0)", "nil", "(not '(nil))", "nil");
        values("(implies t nil)", "nil", "(implies 0 nil)", "nil", "(implies t t)", "t", "(implies t 0)", "t",
                "(implies nil nil)", "t", "(implies nil 5)", "t");
    }

    private static void naturalsOfWork() {
        values("(+ 2 3)", "5", "(- 5 3)", "2", "(- 3 5)", "0", "(- 3 3)", "0", "(< 2 3)", "t", "(< 3 3)", "nil", "(< 3 2)", "nil");
        for (String other : new String[] {"nil", "t", "'a", "'(1)", "''1"}) {
            values("(+ " + other + " 3)", "3", "(+ 3 " + other + ")", "3", "(+ " + other + " " + other + ")", "0");
            values("(- " + other + " 3)", "0", "(- 3 " + other + ")", "3", "(- " + other + " " + other + ")", "0");
            values("(< " + other + " 1)", "t", "(< 1 " + other + ")", "nil", "(< " + other + " 0)", "nil");
        }

        says("A sum above 2^62 - 1 is TOO GREAT.");
        values("(+ " + MOST + " 0)", MOST, "(+ 1 4611686018427387902)", MOST, "(- " + MOST + " " + MOST + ")", "0");
        new Session().fails("(eval (+ " + MOST + " 1))", 3, 1);
        new Session().fails("(eval (+ 1 " + MOST + "))", 3, 1);
        new Session().fails("(eval (+ " + MOST + " " + MOST + "))", 3, 1);
    }

    /** A term of this odd SIZE: sums of ones. */
    private static String sum(int size) {
        int plus = size / 2;
        return "(+ 1 ".repeat(plus) + "1" + ")".repeat(plus);
    }

    private static void sizeOfTerms() {
        says("The SIZE of a term is how many variables, constants and calls it has (each as often as it stands). "
                + "A term of a TEXT has a SIZE of at most 120.");
        // Deeper than 38 the text can't be, so six sums of 17 in five sums make 107; each not adds one.
        String six = "(+ ".repeat(5) + sum(17) + (" " + sum(17) + ")").repeat(5);
        for (int nots = 12; nots <= 15; nots++) {
            String term = "(not ".repeat(nots) + six + ")".repeat(nots);
            int due = nots <= 13 ? 0 : 2;
            Session.same("eval with SIZE " + (107 + nots), new Session().run("(eval " + term + ")"), due);
            Session.same("with with SIZE " + (107 + nots), new Session().run("(with () " + term + ")"), due);
            Session.same("defun with SIZE " + (107 + nots), new Session().run("(defun f () " + term + ")"), due);
            Session.same("redo with SIZE " + (107 + nots), having("(defun f () 1)").run("(redo f () " + term + ")"), due);
        }
        // A constant counts as one, however much is in it, and a variable each time it stands.
        new Session().tells("(eval (car '" + zeros(600) + "))", "0");
        String some = " x".repeat(6);
        Session s = having("(defun six (a b c d e f) a)");
        String row = "(six" + (" (six" + some + ")").repeat(6) + ")";
        s.tells("(with ((x 3)) (cons " + row + " " + row + "))", "(3 . 3)");
        s.refuses("(with ((x 3)) (cons (cons " + row + " " + row + ") " + row + "))", 2);
    }

    private static void fuelAndFaults() {
        says("Each command has FUEL, 1 .. 1000 (1000 at first), for its STEPS.");
        Session s = new Session();
        Session.same("the fuel at first", s.machine.fuel(2), 1000);
        s.tells("(eval (car (cdr '(1 2))))", "2");
        s.tells("(eval (car (cdr '(1 2))))", "2");
        s.fails("(eval (car (cdr (cdr '(1 2)))))", 1, 2);

        says("FAULTS OF WORK, as they come: 1 OUT OF FUEL (a STEP more than FUEL), 2 TOO DEEP, 3 TOO GREAT.");
        s = having("(defun loop (x) (loop x))");
        s.fails("(eval (loop 1))", 2, 300);
        s.machine.fuel(299);
        s.fails("(eval (loop 1))", 1, 299);
        s.machine.fuel(1000);
        s.fails("(eval (cons (+ 1 " + MOST + ") (loop 1)))", 3, 2);
        s.fails("(eval (cons (loop 1) (+ 1 " + MOST + ")))", 2, 300);
        s.machine.fuel(1);
        s.fails("(eval (cons (+ 1 " + MOST + ") (loop 1)))", 1, 1);

        says("A command that has one changes nothing.");
        s = having("(defun bad (x) (+ x " + MOST + "))");
        s.fails("(map bad (0 1))", 3, 4);
        Session.same("functions", s.machine.functions(), 1);
        s.tells("(show bad)", "(defun bad (x) (+ x " + MOST + "))");
        s.tells("(map bad (0 a))", "(" + MOST + " " + MOST + ")");
        Session.same("the fuel", s.machine.fuel(1000), 1000);
    }

    private static void evaluating() {
        says("TO EVALUATE a term whose variables have values: a variable's value; a constant's; of a call one STEP, then "
                + "of if the first one, and the second or third one alone; of others all from the left, then the value, "
                + "of a DEFINED function that of its body, its parameters having these.");
        steps("(with ((x (a . b))) x)", "(a . b)", 0);
        steps("(eval '(a . b))", "(a . b)", 0);
        steps("(eval (car '(a . b)))", "a", 1);
        steps("(eval (if (not nil) (car nil) (car (car nil))))", "nil", 3);
        steps("(eval (if nil (car nil) (car (car nil))))", "nil", 3);
        steps("(eval (if t 1 (+ 1 " + MOST + ")))", "1", 1);
        steps("(eval (implies (car nil) (cons 1 2)))", "t", 3);
        new Session().fails("(eval (implies nil (+ 1 " + MOST + ")))", 3, 2);
        Session s = having("(defun pair (a b) (cons b a))", "(defun loop (x) (loop x))");
        s.tells("(eval (pair (pair 1 2) (pair 3 4)))", "((4 . 3) 2 . 1)");
        Session.same("steps", s.machine.steps(), 6);
        s.fails("(eval (pair (loop 1) (+ 1 " + MOST + ")))", 2, 300);
        s.fails("(eval (pair (+ 1 " + MOST + ") (loop 1)))", 3, 2);
        s.tells("(with ((a 1) (b 2)) (pair b a))", "(1 . 2)");

        says("A call that is begun within 300 others that are not ended is TOO DEEP (asked ahead of its STEP).");
        s = having("(defun down (n) (if (equal n 0) 0 (down (- n 1))))");
        // Each down and its if are open at once, and within the last if the equal: 2 n + 3.
        s.tells("(eval (down 148))", "0");
        s.tells("(eval (cdr (down 148)))", "nil");
        s.fails("(eval (cdr (cdr (down 148))))", 2, 2 + 4 * 148 + 2);
        s.machine.fuel(2 + 4 * 148 + 2);
        s.fails("(eval (cdr (cdr (down 148))))", 2, 2 + 4 * 148 + 2);
        s.machine.fuel(2 + 4 * 148 + 1);
        s.fails("(eval (cdr (cdr (down 148))))", 1, 2 + 4 * 148 + 1);
    }

    private static void steps(String text, String out, int due) {
        Session s = new Session();
        s.tells(text, out);
        Session.same(text + " makes steps", s.machine.steps(), due);
    }

    private static void answers() {
        says("run() takes a TEXT, one list that is one of these; f is a symbol that is not RESERVED; T a term.");
        String[] none = {"eval", "5", "()", "'(eval 1)", "((eval 1))", "(5 1)", "(print 1)", "(eval)", "(eval 1 2)",
            "(eval . 1)", "(undo 1)", "(show)", "(show 5)", "(show (f))", "(show car)", "(map car (1))", "(map t (1))",
            "(redo not (x) x)", "(defun 5 (x) x)", "(defun (f) (x) x)", "(defun f (x) (g x))"};
        for (String text : none) {
            new Session().refuses(text, 2);
        }

        says("ANSWERS: 0 it was done; 1 a FAULT of READING; 2 it is none of these, or something in it is not as told; "
                + "3 a name that is taken, or one that there is not; 8 there is no room (asked in this order, 1, 2, 3, 8); "
                + "4 a FAULT OF WORK.");
        Session s = new Session();
        for (int i = 0; i < 40; i++) {
            Session.same("function " + i, s.run("(defun f" + i + " (x) x)"), 0);
        }
        s.misreads("(defun f0 (x) y", 3, 15);
        s.refuses("(defun f0 (x) y)", 2);
        s.refuses("(defun g (x) y)", 2);
        s.refuses("(defun f0 (x) x)", 3);
        s.refuses("(defun g (x) x)", 8);
        s.fails("(eval (+ 1 " + MOST + "))", 3, 1);
        s.tells("(eval (f39 1))", "1");

        says("OUT is empty where nothing else is told.");
        String[] quiet = {"(undo)", "(defun g (x) x)", "(redo g (y) y)", "(defun g (x) x)", "(eval g)", "(", "(show h)",
            "(eval (+ 1 " + MOST + "))"};
        for (String text : quiet) {
            s.tells("(eval 'aa)", "aa");
            s.run(text);
            Session.same("OUT behind " + text, s.machine.size(), 0);
        }
    }

    private static void evalAndWith() {
        says("(eval T), T without variables: OUT its value.");
        new Session().tells("(eval (cons 'x (cons nil t)))", "(x nil . t)");
        new Session().refuses("(eval x)", 2);
        new Session().refuses("(eval (if t 1 x))", 2);

        says("(with ((x V) ..) T): the x different variables, perhaps none, the V objects; T with these variables alone: "
                + "OUT its value, the x having these values.");
        new Session().tells("(with () 1)", "1");
        new Session().tells("(with ((x (car 5)) (y 'a) (z z)) (cons x (cons y z)))", "((car 5) 'a . z)");
        new Session().tells("(with ((x 1) (y 2)) 3)", "3");
        String[] wrong = {"(with ((x 1) (x 2)) x)", "(with ((x 1)) y)", "(with (x) 1)", "(with ((x)) 1)", "(with ((x 1 2)) 1)",
            "(with ((x . 1)) 1)", "(with ((x 1) . y) 1)", "(with x 1)", "(with (((x) 1)) 1)", "(with nil)", "(with () 1 2)"};
        for (String text : wrong) {
            new Session().refuses(text, 2);
        }
    }

    private static void map() {
        says("(map f V): f DEFINED, taking one term (another one that is a function: 2; none: 3), V a list: OUT the list of "
                + "f's values, its parameter having each element of V, from the left, each as if a call of f of a constant "
                + "were evaluated.");
        Session s = having("(defun one (x) (cons x x))", "(defun two (x y) x)", "(defun zero () 0)",
                "(defun loop (x) (if (equal x 0) 0 (+ x (loop x))))");
        s.tells("(map one (1 a (b) 'c))", "((1 . 1) (a . a) ((b) b) ('c quote c))");
        Session.same("steps of four", s.machine.steps(), 8);
        s.tells("(map one '(a))", "((quote . quote) ((a) a))");
        s.tells("(map one ())", "nil");
        Session.same("steps of none", s.machine.steps(), 0);
        s.refuses("(map two (1))", 2);
        s.refuses("(map zero (1))", 2);
        s.refuses("(map car (1))", 2);
        s.refuses("(map three (1))", 3);
        s.refuses("(map three 1)", 2);
        s.refuses("(map one 1)", 2);
        s.refuses("(map one (1 . 2))", 2);
        // The first element makes three steps, the second one opens 300 calls.
        s.tells("(map loop (0))", "(0)");
        Session.same("steps of one", s.machine.steps(), 3);
        s.machine.fuel(3);
        s.tells("(map loop (0))", "(0)");
        s.fails("(map loop (0 0))", 1, 3);
    }

    private static void defun() {
        says("(defun f (x ..) T): the x different variables, at most 6; T with these variables alone, f being a function of "
                + "so many terms in it.");
        having("(defun f () 1)", "(defun g (a b c d e f) (f))").tells("(eval (g 1 2 3 4 5 6))", "1");
        having("(defun f (x) (if (consp x) (f (cdr x)) x))").tells("(eval (f '(a b . c)))", "c");
        String[] wrong = {"(defun f (a b c d e g h) 1)", "(defun f (x x) 1)", "(defun f (nil) 1)", "(defun f (t) 1)",
            "(defun f (5) 1)", "(defun f ((x)) 1)", "(defun f x 1)", "(defun f (x . y) 1)", "(defun f (x) y)",
            "(defun f (x) (f))", "(defun f () (f 1))", "(defun f (x))", "(defun f (x) x x)", "(defun f (x) (quote))"};
        for (String text : wrong) {
            new Session().refuses(text, 2);
        }

        says("f is DEFINED already: 3; 40 are: 8.");
        Session s = having("(defun f (x) x)");
        s.refuses("(defun f (x) x)", 3);
        s.refuses("(defun f () (f))", 3);
        for (int i = 1; i < 40; i++) {
            Session.same("function " + i, s.run("(defun f" + i + " () 1)"), 0);
        }
        s.refuses("(defun f40 () 1)", 8);
        s.refuses("(defun f39 () 1)", 3);
        Session.same("functions", s.machine.functions(), 40);
    }

    private static void redoUndoShow() {
        says("(redo f (x ..) T): as defun, but f is DEFINED, with as many x (2 otherwise; 3 if it isn't DEFINED): T is its "
                + "body from now on, the x its parameters.");
        Session s = having("(defun f (x y) x)", "(defun g (x) (f x 2))");
        s.tells("(redo f (y x) (cons x y))", "");
        s.tells("(eval (g 1))", "(2 . 1)");
        s.tells("(show f)", "(defun f (y x) (cons x y))");
        s.refuses("(redo f (x) x)", 2);
        s.refuses("(redo f (x y z) x)", 2);
        s.refuses("(redo f (x x) x)", 2);
        s.refuses("(redo f (x y) z)", 2);
        s.refuses("(redo h (x y) x)", 3);
        s.refuses("(redo h (x y) z)", 2);
        s.tells("(redo f (x y) (if (consp x) (g (cdr x)) 'end))", "");
        s.tells("(eval (g '(a b)))", "end");

        says("(undo): the function that was DEFINED last is gone, if no other one calls it (some does, or there is none: 3).");
        s.refuses("(undo)", 3);
        s.tells("(redo f (x y) 'g)", "");
        s.tells("(undo)", "");
        s.refuses("(show g)", 3);
        s.tells("(redo f (x y) (f y x))", "");
        s.tells("(undo)", "");
        s.refuses("(show f)", 3);
        s.refuses("(undo)", 3);
        Session.same("functions", s.machine.functions(), 0);

        says("(show f): f DEFINED (else 3): OUT the list (defun f (x ..) T), its terms with their constants as said.");
        s = having("(defun f (x) (if '0 (f 'x) (cons 't '(quote 5))))");
        s.tells("(show f)", "(defun f (x) (if 0 (f 'x) (cons t ''5)))");
        s.refuses("(show g)", 3);
        s.refuses("(show x)", 3);
    }

    private static void newObjectAndFeed() {
        says("Nothing DEFINED; no TEXT, OUT is empty.");
        LispMachine x = new LispMachine();
        Session.same("functions", x.functions(), 0);
        Session.same("size", x.size(), 0);
        Session.same("the text", x.end(0), 0);

        says("Twenty bytes wait, those of a first, the highest of each first.");
        x.feed(0x28657661, 0x6C202861, 0x62636465, 0x66676869, 0x6A6B6C6D);
        Session.same("end(20)", x.end(20), 20);
        Session.same("run", x.run(), 1);
        // "(eval (abcdefghijklm": the symbol of 13 begins behind seven characters.
        Session.same("fault", x.fault(0), 2);
        Session.same("place", x.fault(1), 7);

        says("(They are 0 at first, and behind each end() that is not refused.)");
        zerosWait(new LispMachine(), 0);
        x = new LispMachine();
        x.feed(0x20202020, 0x20202020, 0x20202020, 0x20202020, 0x20202020);
        Session.same("end(21)", x.end(21), NONE);
        Session.same("end(3)", x.end(3), 3);
        zerosWait(x, 3);
    }

    /** The next byte is a 0, with which no word begins. */
    private static void zerosWait(LispMachine x, int place) {
        x.end(1);
        Session.same("run", x.run(), 1);
        Session.same("fault", x.fault(0), 1);
        Session.same("place", x.fault(1), place);
    }

    private static void endAndFuel() {
        says("The first n of the bytes that wait come behind the TEXT: how many it has.");
        Session s = new Session();
        s.text("(eval 1");
        int[] words = Session.words("23)456");
        s.machine.feed(words[0], words[1], words[2], words[3], words[4]);
        Session.same("end(3)", s.machine.end(3), 10);
        s.tells("", "123");

        says("NONE, refused, when n isn't 0 .. 20, or there would be more than 3000.");
        Session.same("end(-1)", s.machine.end(-1), NONE);
        Session.same("end(21)", s.machine.end(21), NONE);
        Session.same("the text is as it was", s.machine.end(0), 0);
        s.text(" ".repeat(2990));
        Session.same("end(11)", s.machine.end(11), NONE);
        Session.same("end(10)", s.machine.end(10), 3000);
        Session.same("end(1)", s.machine.end(1), NONE);
        Session.same("end(0)", s.machine.end(0), 3000);

        says("The FUEL of commands to come: what it was.");
        s = new Session();
        Session.same("fuel(5)", s.machine.fuel(5), 1000);
        Session.same("fuel(1)", s.machine.fuel(1), 5);
        s.fails("(eval (car (car nil)))", 1, 1);
        Session.same("fuel(2)", s.machine.fuel(2), 1);
        s.tells("(eval (car (car nil)))", "nil");

        says("NONE, refused, when n isn't 1 .. 1000.");
        Session.same("fuel(0)", s.machine.fuel(0), NONE);
        Session.same("fuel(-1)", s.machine.fuel(-1), NONE);
        Session.same("fuel(1001)", s.machine.fuel(1001), NONE);
        Session.same("fuel(1000)", s.machine.fuel(1000), 2);
    }

    private static void runAndFault() {
        says("The TEXT, which is empty then, is read and done: the ANSWER.");
        Session s = new Session();
        Session.same("run", s.run("(defun f (x) x)"), 0);
        Session.same("the text behind it", s.machine.end(0), 0);
        Session.same("run", s.run("(defun f (x) x"), 1);
        Session.same("the text behind it", s.machine.end(0), 0);
        Session.same("run", s.run("(defun f (x) x)"), 3);
        Session.same("run of no text", s.machine.run(), 1);

        says("Of the latest run(): the FAULT of READING (what 0), its place (1), the FAULT OF WORK (2), each 0 without one "
                + "(the place NONE), or before.");
        LispMachine x = new LispMachine();
        faults(x, 0, NONE, 0);
        faults(s.machine, 3, 0, 0);
        s.run("(eval (+ " + MOST + " 1))");
        faults(s.machine, 0, NONE, 3);
        s.run("(eval #)");
        faults(s.machine, 1, 6, 0);
        s.run("(eval 1)");
        faults(s.machine, 0, NONE, 0);

        says("NONE for another what.");
        s.run("(eval #)");
        for (int what : new int[] {-1, 3, 4, 8, Integer.MIN_VALUE, Integer.MAX_VALUE}) {
            Session.same("fault(" + what + ")", s.machine.fault(what), NONE);
        }
    }

    private static void faults(LispMachine x, int reading, int place, int work) {
        Session.same("fault(0)", x.fault(0), reading);
        Session.same("fault(1)", x.fault(1), place);
        Session.same("fault(2)", x.fault(2), work);
    }

    private static void stepsToLetter() {
        says("How many STEPS the latest run() made (with OUT OF FUEL its FUEL).");
        Session s = having("(defun loop (x) (if x (loop x) 1))");
        Session.same("steps of a new object", new LispMachine().steps(), 0);
        Session.same("steps of a defun", s.machine.steps(), 0);
        s.run("(eval (cons (car 1) (cdr 1)))");
        Session.same("steps of three calls", s.machine.steps(), 3);
        s.machine.fuel(7);
        s.run("(eval (loop 1))");
        Session.same("steps out of fuel", s.machine.steps(), 7);
        s.run("(eval");
        Session.same("steps of a text with a fault", s.machine.steps(), 0);

        says("How many functions are DEFINED.");
        Session.same("functions", s.machine.functions(), 1);
        s.run("(undo)");
        Session.same("functions", s.machine.functions(), 0);

        says("How many characters OUT has.");
        s.run("(eval '(a 12 b))");
        Session.same("size", s.machine.size(), 8);

        says("Character k of OUT; NONE when there is none.");
        for (int k = 0; k < 8; k++) {
            Session.same("letter(" + k + ")", s.machine.letter(k), (int) "(a 12 b)".charAt(k));
        }
        for (int k : new int[] {-1, 8, 9, 1999, 2000, Integer.MIN_VALUE, Integer.MAX_VALUE}) {
            Session.same("letter(" + k + ")", s.machine.letter(k), NONE);
        }
    }
}
