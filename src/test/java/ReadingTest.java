/** OBJECTS AND TEXTS: words, blanks, objects, and the five faults of reading with their places. */
public final class ReadingTest {
    public static void main(String[] args) {
        objects();
        blanks();
        faultOne();
        faultTwo();
        faultThree();
        faultFour();
        faultFive();
        leastFault();
        Session.finish();
    }

    private static void reads(Session s, String object, String told) {
        s.tells("(with ((x " + object + ")) x)", told);
    }

    private static void objects() {
        Session s = new Session();
        reads(s, "0", "0");
        reads(s, "007", "7");
        reads(s, "4611686018427387903", "4611686018427387903");
        reads(s, "0000000000000000000000004611686018427387903", "4611686018427387903");
        reads(s, "abcdefghijk", "abcdefghijk");
        reads(s, "z_9?!<>=+*/", "z_9?!<>=+*/");
        reads(s, "___________", "___________");
        reads(s, "-5", "-5");
        reads(s, "12a", "12a");
        reads(s, "1+", "1+");
        reads(s, "()", "nil");
        reads(s, "(nil . nil)", "(nil)");
        reads(s, "(a b c)", "(a b c)");
        reads(s, "(a.b)", "(a . b)");
        reads(s, "(1.5)", "(1 . 5)");
        reads(s, "(a . (b . (c . ())))", "(a b c)");
        reads(s, "(a b . c)", "(a b . c)");
        reads(s, "(a . (b . c))", "(a b . c)");
        reads(s, "'a", "'a");
        reads(s, "(quote a)", "'a");
        reads(s, "(a . 'b)", "(a quote b)");
        reads(s, "('a . ''b)", "('a quote 'b)");
        reads(s, "'()", "'nil");
        Session t = new Session();
        t.tells("(eval (equal '(a b . (c)) '(a . (b c))))", "t");
        t.tells("(eval (equal 007 7))", "t");
        t.tells("(eval (equal '7 7))", "t");
        t.tells("(eval (equal '-7 '7))", "nil");
        t.tells("(eval (equal 'ab 'ba))", "nil");
        t.tells("(eval (equal 'a 'aa))", "nil");
    }

    private static void blanks() {
        Session s = new Session();
        s.tells("\n ; a comment ((( #\n (eval;x\n'a) ; the end", "a");
        s.tells("(eval(cons'a'b));", "(a . b)");
        s.tells("(eval ' \n a)", "a");
        s.tells("(eval '( a\n.\nb ))", "(a . b)");
        s.tells(";;;\n;;\n(eval 1)\n\n", "1");
        // All up to the line's end belongs to the comment, even what no text may have elsewhere.
        s.tells("(eval 1);\t\0\u00FF:", "1");
        s.misreads("; (eval 1)", 3, 10);
        s.misreads("   \n  ", 3, 6);
        s.misreads("(eval 1 ;)", 3, 10);
    }

    private static void faultOne() {
        Session s = new Session();
        String none = "#\"$%&,:@ABCXYZ[\\]^`{|}~\t\r\0\u007F\u0080\u00FF";
        for (int i = 0; i < none.length(); i++) {
            s.misreads("(a " + none.charAt(i), 1, 3);
        }
        s.misreads("abC", 1, 2);
        s.misreads("(eval 1) #", 1, 9);
        s.misreads("(eval 1)#", 1, 8);
        s.misreads("(a:b)", 1, 2);
    }

    private static void faultTwo() {
        Session s = new Session();
        s.misreads("(eval 'abcdefghijkl)", 2, 7);
        s.misreads("(eval 4611686018427387904)", 2, 6);
        s.misreads("(eval 46116860184273879030)", 2, 6);
        s.misreads("(eval 9223372036854775808)", 2, 6);
        s.misreads("(eval 18446744073709551617)", 2, 6);
        s.misreads("(eval 99999999999999999999999999999999999999999999)", 2, 6);
        s.misreads("(eval 1000000000000000000000000000000000000000000a)", 2, 6);
        s.misreads("(eval 00000000000a)", 2, 6);
        s.misreads("a abcdefghijkl", 2, 2);
        s.misreads(")abcdefghijkl", 3, 0);
    }

    private static void faultThree() {
        Session s = new Session();
        s.misreads("", 3, 0);
        s.misreads(")", 3, 0);
        s.misreads(" .", 3, 1);
        s.misreads("'", 3, 1);
        s.misreads("(", 3, 1);
        s.misreads("(a", 3, 2);
        s.misreads("(a . ", 3, 5);
        s.misreads("(a . b ", 3, 7);
        s.misreads("(a '", 3, 4);
        s.misreads("(. a)", 3, 1);
        s.misreads("(a . )", 3, 5);
        s.misreads("(a . b c)", 3, 7);
        s.misreads("(a . b . c)", 3, 7);
        s.misreads("(a . b 'c)", 3, 7);
        s.misreads("(a . b (c))", 3, 7);
        s.misreads("(a . . b)", 3, 5);
        s.misreads("(a ')", 3, 4);
        s.misreads("(a '. b)", 3, 4);
        s.misreads("'.", 3, 1);
        s.misreads("''", 3, 2);
        s.misreads("a b", 3, 2);
        s.misreads("a)", 3, 1);
        s.misreads("a.b", 3, 1);
        s.misreads("(a))", 3, 3);
        s.misreads("'a 'b", 3, 3);
        s.misreads("(a) (", 3, 4);
    }

    private static void faultFour() {
        Session s = new Session();
        String thirtyEight = "(".repeat(38) + ")".repeat(38);
        s.tells("(eval '" + thirtyEight + ")", "(".repeat(37) + "nil" + ")".repeat(37));
        s.misreads("(eval '" + "(".repeat(39), 4, 45);
        s.misreads("(".repeat(41), 4, 40);
        s.misreads("'".repeat(41), 4, 40);
        s.misreads("('('".repeat(10) + "'a", 4, 40);
        s.misreads("'".repeat(40), 3, 40);
        s.refuses("'".repeat(40) + "a", 2);
        // A ' is open until its object has ended, and no longer.
        s.tells("(eval '" + "(".repeat(36) + "'a 'b ''c" + ")".repeat(37),
                "(".repeat(36) + "'a 'b ''c" + ")".repeat(36));
        s.misreads("(".repeat(38) + "'a 'b ''c '''d", 4, 50);
        s.misreads("(".repeat(39) + "'(", 4, 40);
    }

    private static void faultFive() {
        Session s = new Session();
        // ( with ( ( x ( and ) ) ) x ) are eleven words, and 989 elements make 1000.
        s.tells("(with((x(" + "a ".repeat(989) + ")))x)", ("(" + "a ".repeat(989)).substring(0, 1978) + ")");
        new Session().misreads("(with((x(" + "a ".repeat(990) + ")))x)", 5, 9 + 2 * 990 + 4);
        new Session().misreads("(" + "a ".repeat(1001), 5, 1 + 2 * 999);
        new Session().misreads("(" + "a ".repeat(1000), 5, 1 + 2 * 999);
        new Session().misreads("(" + "a ".repeat(999), 3, 1 + 2 * 999);
    }

    private static void leastFault() {
        String nearly = "(" + "a ".repeat(999);
        new Session().misreads(nearly + "#", 1, 1999);
        new Session().misreads(nearly + "abcdefghijkl", 2, 1999);
        new Session().misreads("(" + "a ".repeat(998) + ")" + "(", 3, 1998);
        new Session().misreads("(" + "a ".repeat(998) + ".)", 3, 1998);
        // The 1001st word is a ( in 40 others.
        new Session().misreads("a ".repeat(0) + "(" + "a ".repeat(960) + "(".repeat(39) + "(", 4, 1960);
        new Session().misreads("(".repeat(40) + "#(", 1, 40);
    }
}
