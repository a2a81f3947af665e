import java.math.BigInteger;

/**
 * The sentences of OBJECTS AND TEXTS that name a boundary case: characters, atoms, the faults of
 * READING with their places, and the end of OUT.
 */
public final class TextBoundsTest {
    private static final String ATOM_LETTERS = "abcdefghijklmnopqrstuvwxyz0123456789+-*/<>=?!_";
    private static final BigInteger MOST = BigInteger.TWO.pow(62).subtract(BigInteger.ONE);

    public static void main(String[] args) {
        everyCharacter();
        everyCharacterBehindAnAtom();
        everyCharacterInAComment();
        wordsAsLongAsCanBe();
        symbolsOfEleven();
        everyLetterOfSymbols();
        naturals();
        naturalsOfManyDigits();
        wordsThatCannotStand();
        placeOfTheEnd();
        fortyOpenOnes();
        quotesEnd();
        thousandWords();
        leastNumberAtOnePlace();
        firstFromTheLeft();
        emptyAndDotted();
        endOfOut();
        Session.finish();
    }

    private static void reads(Session s, String object, String told) {
        s.tells("(with ((x " + object + ")) x)", told);
    }

    private static boolean isAtomLetter(int c) {
        return ATOM_LETTERS.indexOf(c) >= 0;
    }

    private static boolean isBlank(int c) {
        return c == 32 || c == 10 || c == ';';
    }

    /** "1 a character with which no word begins (also 32 .. 126 that are none of those above)" */
    private static void everyCharacter() {
        Session s = new Session();
        for (int c = 0; c < 256; c++) {
            s = c % 100 == 0 ? new Session() : s;
            String text = String.valueOf((char) c);
            if (isBlank(c) || c == '(' || c == '\'') {
                s.misreads(text, 3, 1);
            } else if (c == ')' || c == '.') {
                s.misreads(text, 3, 0);
            } else if (isAtomLetter(c)) {
                s.refuses(text, 2);
            } else {
                s.misreads(text, 1, 0);
            }
        }
    }

    private static void everyCharacterBehindAnAtom() {
        Session s = new Session();
        for (int c = 0; c < 256; c++) {
            s = c % 100 == 0 ? new Session() : s;
            String text = "(a" + (char) c;
            if (isBlank(c) || isAtomLetter(c) || "('.".indexOf(c) >= 0) {
                s.misreads(text, 3, 3);
            } else if (c == ')') {
                s.refuses(text, 2);
            } else {
                s.misreads(text, 1, 2);
            }
        }
    }

    /** "BLANKS are 32, 10, and a ; with all up to the line's end (or the text's)." */
    private static void everyCharacterInAComment() {
        Session s = new Session();
        for (int c = 0; c < 256; c++) {
            s = c % 60 == 0 ? new Session() : s;
            s.tells(";" + (char) c + "\n(eval 1)", "1");
        }
        s = new Session();
        s.tells("(eval 1);", "1");
        s.tells("(eval 1);\n", "1");
        s.tells("(eval 1)\n;", "1");
        s.tells("(eval;;\n1)", "1");
        s.misreads("(eval;\n;1)", 3, 10);
        s.misreads(";", 3, 1);
        s.misreads(";\n", 3, 2);
        s.misreads("(eval 1);\n#", 1, 10);
        s.misreads("(eval 1)\n;\n)", 3, 11);
        s.tells(";" + "x".repeat(2000) + "\n(eval 1)", "1");
    }

    /** "WORDS, each as long as can be: ( ) ' . (one character each), and ATOMS" */
    private static void wordsAsLongAsCanBe() {
        Session s = new Session();
        reads(s, "(a'b)", "(a 'b)");
        reads(s, "(a(b)c)", "(a (b) c)");
        reads(s, "(1a2 12)", "(1a2 12)");
        reads(s, "(1+2)", "(1+2)");
        reads(s, "(a;b\nc)", "(a c)");
        reads(s, "(a\nb)", "(a b)");
        reads(s, "(1.2)", "(1 . 2)");
        reads(s, "(+1 -1 +)", "(+1 -1 +)");
        s.misreads("12.5", 3, 2);
        s.misreads("a'b", 3, 1);
        s.misreads("(a..b)", 3, 3);
        s.misreads("a(", 3, 1);
    }

    /** "a SYMBOL of at most 11 characters"; "2 a SYMBOL of more than 11" */
    private static void symbolsOfEleven() {
        for (String letter : new String[] {"a", "z", "+", "_", "!", "9a"}) {
            Session s = new Session();
            String many = letter.repeat(20);
            int even = letter.length() == 2 ? 1 : 0;
            for (int n = 1 + even; n <= 11; n++) {
                reads(s, many.substring(0, n), many.substring(0, n));
            }
            for (int n = 12; n <= 20; n++) {
                s.misreads("(eval '" + many.substring(0, n) + ")", 2, 7);
            }
        }
        Session s = new Session();
        s.misreads("a".repeat(12), 2, 0);
        s.misreads(" " + "a".repeat(2999), 2, 1);
        s.misreads("(a . 12345678901a)", 2, 5);
        reads(s, "1234567890a", "1234567890a");
        reads(s, "-1234567890", "-1234567890");
        s.misreads("-12345678901", 2, 0);
        s.misreads("12345678901-", 2, 0);
        // A function's name and its variables may be as long.
        s.tells("(defun abcdefghijk (zyxwvutsrqp) (cons zyxwvutsrqp 'abcdefghijk))", "");
        s.tells("(eval (abcdefghijk 1))", "(1 . abcdefghijk)");
        s.refuses("(eval (abcdefghij 1))", 2);
        s.misreads("(eval (abcdefghijkl 1))", 2, 7);
        s.tells("(show abcdefghijk)", "(defun abcdefghijk (zyxwvutsrqp) (cons zyxwvutsrqp 'abcdefghijk))");
    }

    private static void everyLetterOfSymbols() {
        for (int i = 0; i < ATOM_LETTERS.length(); i++) {
            Session s = new Session();
            char letter = ATOM_LETTERS.charAt(i);
            char other = ATOM_LETTERS.charAt((i + 1) % ATOM_LETTERS.length());
            reads(s, "a" + letter, "a" + letter);
            reads(s, letter + "_________" + letter, letter + "_________" + letter);
            for (int at = 0; at < 11; at++) {
                String one = "_".repeat(at) + letter + "_".repeat(10 - at);
                String two = "_".repeat(at) + other + "_".repeat(10 - at);
                s.tells("(eval (equal '" + one + " '" + two + "))", "nil");
                s.tells("(eval (equal '" + one + " '" + one + "))", "t");
            }
        }
        Session s = new Session();
        for (int n = 1; n <= 10; n++) {
            s.tells("(eval (equal '" + "a".repeat(n) + " '" + "a".repeat(n + 1) + "))", "nil");
        }
    }

    /** "a NATURAL (0 .. 2^62 - 1)"; "2 .. a NATURAL above 2^62 - 1" */
    private static void naturals() {
        Session s = new Session();
        BigInteger two = BigInteger.TWO;
        for (int power : new int[] {0, 1, 7, 8, 15, 16, 31, 32, 61}) {
            for (int more = -1; more <= 1; more++) {
                String natural = two.pow(power).add(BigInteger.valueOf(more)).toString();
                reads(s, natural, natural);
            }
        }
        for (int power = 1; power <= 18; power++) {
            String natural = BigInteger.TEN.pow(power).toString();
            reads(s, natural, natural);
            reads(s, "9".repeat(power), "9".repeat(power));
        }
        Session t = new Session();
        for (int less = 0; less <= 12; less++) {
            String natural = MOST.subtract(BigInteger.valueOf(less)).toString();
            reads(t, natural, natural);
        }
        Session u = new Session();
        for (int power : new int[] {62, 63, 64, 65, 66, 67, 68, 96, 128}) {
            for (int more = power == 62 ? 0 : -1; more <= 10; more++) {
                u = more == 0 ? new Session() : u;
                String natural = two.pow(power).add(BigInteger.valueOf(more)).toString();
                u.misreads("(eval " + natural + ")", 2, 6);
            }
        }
    }

    private static void naturalsOfManyDigits() {
        String zeros = "0".repeat(2900);
        new Session().tells("(eval " + zeros + MOST + ")", MOST.toString());
        new Session().misreads("(eval " + zeros + MOST.add(BigInteger.ONE) + ")", 2, 6);
        new Session().tells("(eval " + zeros + ")", "0");
        new Session().misreads("(eval " + "9".repeat(2900) + ")", 2, 6);
        new Session().misreads("(eval 1" + zeros + ")", 2, 6);
        Session s = new Session();
        s.tells("(eval 00)", "0");
        s.tells("(eval 12345678901)", "12345678901");
        s.tells("(eval 123456789012)", "123456789012");
        s.tells("(eval 000000000000)", "0");
        s.misreads("(eval 00000000000-)", 2, 6);
        for (int first = 5; first <= 9; first++) {
            s.misreads("(eval " + first + "000000000000000000)", 2, 6);
        }
        for (int first = 1; first <= 4; first++) {
            s.tells("(eval " + first + "000000000000000000)", first + "000000000000000000");
            s.misreads("(eval " + first + "0000000000000000000)", 2, 6);
        }
    }

    /** "3 a word, or the end, that can't stand there": each word behind each beginning. */
    private static void wordsThatCannotStand() {
        String[] beginnings = {"", "a ", "'a ", "(a) ", "() ", "(", "(a ", "('a ", "(() ", "(a . ", "(a . b ",
            "(a . 'b ", "(a . (b) ", "'", "(a '", "(a . '", "('(", "''", "((a . b) "};
        // Which of these words may stand there: an object's beginning, ")", ".", the end.
        String[] may = {"o", "e", "e", "e", "e", "oc", "ocd", "ocd", "ocd", "o", "c",
            "c", "c", "o", "o", "o", "oc", "o", "ocd"};
        String[] words = {"(", "'", "b", "12", ")", ".", ""};
        String[] kinds = {"o", "o", "o", "o", "c", "d", "e"};
        for (int i = 0; i < beginnings.length; i++) {
            Session s = new Session();
            for (int j = 0; j < words.length; j++) {
                String text = beginnings[i] + words[j];
                int at = beginnings[i].length();
                if (!may[i].contains(kinds[j])) {
                    s.misreads(text, 3, at);
                    s.misreads(text + (words[j].isEmpty() ? "" : " )"), 3, at);
                    s.misreads(beginnings[i] + ";\n" + words[j], 3, at + 2);
                } else if (s.run(text) == 1) {
                    Session.same(text + " fault", s.machine.fault(0), 3);
                    Session.same(text + " place", s.machine.fault(1), text.length());
                }
            }
        }
    }

    /** "(the text's length for its end)" */
    private static void placeOfTheEnd() {
        Session s = new Session();
        s.misreads("", 3, 0);
        s.misreads(" ", 3, 1);
        s.misreads("(  ", 3, 3);
        s.misreads("(eval 1 \n ", 3, 10);
        s.misreads("(eval 1 ;)", 3, 10);
        s.misreads("'", 3, 1);
        s.misreads("(a . ", 3, 5);
        s.misreads("((a)", 3, 4);
        new Session().misreads(" ".repeat(3000), 3, 3000);
        new Session().misreads("(" + " ".repeat(2999), 3, 3000);
        new Session().misreads("(;" + "a".repeat(2998), 3, 3000);
    }

    /** "4 a ( or ' that is in 40 of these that are open" */
    private static void fortyOpenOnes() {
        Session s = new Session();
        for (int open = 38; open <= 40; open++) {
            s.refuses("(".repeat(open) + ")".repeat(open), 2);
            s.refuses("'".repeat(open) + "a", 2);
            s.refuses("('".repeat(open / 2) + "a" + ")".repeat(open / 2), 2);
            s.refuses("(a . ".repeat(open) + "b" + ")".repeat(open), 2);
        }
        for (String last : new String[] {"(", "'", "()", "'a", "(a)"}) {
            s.misreads("(".repeat(40) + last, 4, 40);
            s.misreads("'".repeat(40) + last, 4, 40);
            s.misreads("'(".repeat(20) + last, 4, 40);
            s.misreads("(".repeat(40) + "a " + last, 4, 42);
            s.misreads("(".repeat(40) + "a . " + last, 4, 44);
        }
        s.misreads("(".repeat(3000 / 20), 4, 40);
        // Told behind eval and ', which are two of them.
        s.tells("(eval '" + "(".repeat(38) + "a" + ")".repeat(39), "(".repeat(38) + "a" + ")".repeat(38));
        s.tells("(eval '" + "(".repeat(37) + "'a" + ")".repeat(38), "(".repeat(37) + "'a" + ")".repeat(37));
        s.misreads("(eval '" + "(".repeat(38) + "'a" + ")".repeat(39), 4, 45);
    }

    /** "(a ' until its object has ended)" */
    private static void quotesEnd() {
        Session s = new Session();
        s.refuses("(".repeat(39) + "'a 'b '1" + ")".repeat(39), 2);
        s.refuses("(".repeat(39) + "() ()" + ")".repeat(39), 2);
        s.misreads("(".repeat(39) + "''a", 4, 40);
        s.misreads("(".repeat(39) + "'a ''b", 4, 43);
        s.misreads("(".repeat(39) + "'()", 4, 40);
        s.misreads("(".repeat(39) + "('", 4, 40);
        s.refuses("(".repeat(38) + "'(a) '() ''b ('c)" + ")".repeat(38), 2);
        s.misreads("(".repeat(38) + "'(a 'b)", 4, 42);
        s.refuses("(".repeat(37) + "'('a 'b) '''c" + ")".repeat(37), 2);
        s.refuses("(".repeat(38) + "''a . ''b" + ")".repeat(38), 2);
        s.misreads("(".repeat(38) + "''a . '''b", 4, 46);
        // Forty that are closed again don't count.
        s.refuses("(" + ("(".repeat(39) + ")".repeat(39)).repeat(3) + ")", 2);
        s.misreads("(" + ("(".repeat(39) + ")".repeat(39)).repeat(3) + "(".repeat(40), 4, 1 + 3 * 78 + 39);
    }

    /** "5 the 1001st word" */
    private static void thousandWords() {
        for (int words = 998; words <= 1000; words++) {
            // ( eval ' ( and two ) are six words.
            String list = "(" + "a ".repeat(words - 7) + "a)";
            Session s = new Session();
            s.tells("(eval '" + list + ")", list);
        }
        new Session().misreads("(eval '(" + "a ".repeat(995) + "))", 5, 8 + 2 * 995 + 1);
        new Session().misreads("(eval '(" + "a ".repeat(996) + "))", 5, 8 + 2 * 996);
        new Session().misreads("(eval '(" + "a ".repeat(997) + "))", 5, 8 + 2 * 996);
        // Each kind of word may be the one.
        String nearly = "(" + "a ".repeat(999);
        for (String word : new String[] {"(", ")", "'", ".", "b", "1", "b)", "abcdefghijk", "(b)"}) {
            new Session().misreads(nearly + word, 5, 1999);
            new Session().misreads(nearly + " ;\n" + word, 5, 2002);
        }
        // Blanks are no words.
        new Session().misreads(nearly + " ;b\n ", 3, 2004);
        new Session().tells("(eval 1 " + ";( a\n".repeat(590) + ")", "1");
        // Words of one text don't count in the next one.
        Session s = new Session();
        s.refuses("(" + "a ".repeat(998) + ")", 2);
        s.refuses("(" + "a ".repeat(998) + ")", 2);
        s.tells("(eval 1)", "1");
    }

    /** "At one place the least number." */
    private static void leastNumberAtOnePlace() {
        String tooLong = "abcdefghijkl";
        String tooGreat = MOST.add(BigInteger.ONE).toString();
        Session s = new Session();
        // 1 where nothing but the end may stand, and in forty.
        s.misreads("a #", 1, 2);
        s.misreads("(".repeat(40) + "#", 1, 40);
        s.misreads("(a . b #", 1, 7);
        // 2 ahead of 3.
        s.misreads("a " + tooLong, 2, 2);
        s.misreads("(a . b " + tooLong, 2, 7);
        s.misreads("(a . b " + tooGreat, 2, 7);
        s.misreads("() " + tooGreat, 2, 3);
        // 3 ahead of 4.
        s.misreads("(".repeat(40) + "a . b (", 3, 46);
        s.misreads("(".repeat(40) + "a . b '", 3, 46);
        // 1, 2, 3 and 4 ahead of 5.
        String nearly = "(" + "a ".repeat(999);
        new Session().misreads(nearly + "#", 1, 1999);
        new Session().misreads(nearly + tooLong, 2, 1999);
        new Session().misreads(nearly + tooGreat, 2, 1999);
        String dotted = "(" + "a ".repeat(997) + ". b ";
        for (String word : new String[] {"c", "(", "'", "."}) {
            new Session().misreads(dotted + word, 3, 1999);
        }
        new Session().misreads(dotted + tooLong, 2, 1999);
        new Session().misreads(dotted + ")", 5, 1999);
        new Session().misreads("(" + "a ".repeat(998) + ")b", 3, 1998);
        String deep = "(".repeat(40) + "a ".repeat(960);
        for (String word : new String[] {"(", "'"}) {
            new Session().misreads(deep + word, 4, 1960);
        }
        new Session().misreads(deep + "b", 5, 1960);
        new Session().misreads("(".repeat(40) + "a ".repeat(958) + ". b (", 3, 1960);
    }

    /** "FAULTS, the first from the left" */
    private static void firstFromTheLeft() {
        Session s = new Session();
        s.misreads(") #", 3, 0);
        s.misreads("# )", 1, 0);
        s.misreads("abcdefghijkl #", 2, 0);
        s.misreads("(a . #", 1, 5);
        s.misreads("(a . ) #", 3, 5);
        s.misreads("(".repeat(41) + "#", 4, 40);
        s.misreads("(".repeat(40) + ". " + "(", 3, 40);
        new Session().misreads("(" + "a ".repeat(1000) + "#", 5, 1999);
        new Session().misreads("(" + "a ".repeat(998) + "# b", 1, 1997);
    }

    /** "( and objects, perhaps none, and )"; "( and objects, at least one, . one object and )" */
    private static void emptyAndDotted() {
        Session s = new Session();
        reads(s, "()", "nil");
        reads(s, "( )", "nil");
        reads(s, "(;\n)", "nil");
        reads(s, "(())", "(nil)");
        reads(s, "(a)", "(a)");
        reads(s, "(a . ())", "(a)");
        reads(s, "(a . nil)", "(a)");
        reads(s, "(a . t)", "(a . t)");
        reads(s, "(() . ())", "(nil)");
        s.misreads("(. a)", 3, 1);
        s.misreads("(a .)", 3, 4);
        s.misreads("(a . b c)", 3, 7);
        s.misreads("(.)", 3, 1);
    }

    /** "OUT has at most 2000 characters; what would come behind is left out." */
    private static void endOfOut() {
        String tail = "'(ab . 123) (c) '() t 4611686018427387903 (q . 'z) ((d)) . abcdefghijk)";
        String toldTail = "'(ab . 123) (c) 'nil t 4611686018427387903 (q quote z) ((d)) . abcdefghijk)";
        for (int ahead = 1999 - toldTail.length(); ahead <= 2001; ahead++) {
            String beginning = "(" + "abcdefghi ".repeat((ahead - 3) / 10) + "z".repeat((ahead - 3) % 10 + 1) + " ";
            Session.same("the length of what stands ahead", beginning.length(), ahead);
            String due = beginning + toldTail;
            Session s = new Session();
            s.tells("(with((x " + beginning + tail + "))x)", due.substring(0, Math.min(2000, due.length())));
            s.tells("(eval 1)", "1");
        }
    }
}
