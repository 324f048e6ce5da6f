/** Tokens, sentence by sentence: "Terms" and promises 7 and 8. */
public final class TokensTest {
    private static final int NAME = KeptItems.NAME;
    private static final int NUMBER = KeptItems.NUMBER;
    private static final int STRING = KeptItems.STRING;
    private static final int SIGN = KeptItems.SIGN;
    private static final int BAD = KeptItems.BAD;

    public static void main(String[] args) {
        foundFromTheLeft();
        blanks();
        comments();
        names();
        numbers();
        strings();
        stringsWithoutAnEnd();
        signs();
        otherCharacters();
        tokensAreCounted();
        tokenIsPacked();
        tokenThrows();
        Check.finish("TokensTest");
    }

    /** The tokens are looked for as place, length and kind. */
    private static void dueTokens(String text, int... rows) {
        KeptItems x = Check.of(text);
        Check.due(text + ": tokens()", x.tokens(), rows.length / 3);
        for (int k = 0; k < rows.length / 3; k++) {
            int packed = rows[3 * k] * 2048 + rows[3 * k + 1] * 8 + rows[3 * k + 2];
            Check.due(text + ": token(" + k + ")", Check.token(x, k), packed);
        }
        Check.due(text + ": token behind the last", Check.token(x, rows.length / 3), Check.INDEX);
    }

    private static void foundFromTheLeft() {
        Check.sentence("TOKENS are found from the left");
        // What comes first says what the quotes and # behind it are.
        dueTokens("\"#\"a#\"b", 0, 3, STRING, 3, 1, NAME);
        dueTokens("#\"\na\"#\"", 3, 1, NAME, 4, 3, STRING);
        dueTokens("\"a\"b\"c\"d\"", 0, 3, STRING, 3, 1, NAME, 4, 3, STRING, 7, 1, NAME, 8, 1, BAD);
        dueTokens("ab12\"\"=", 0, 2, NAME, 2, 2, NUMBER, 4, 2, STRING, 6, 1, SIGN);
    }

    private static void blanks() {
        Check.sentence("blanks (32 and newlines) are passed over");
        dueTokens("");
        dueTokens(" ");
        dueTokens("\n");
        dueTokens("  \n \n");
        dueTokens(" ".repeat(160));
        dueTokens("\n".repeat(159) + "a", 159, 1, NAME);
        dueTokens(" a\n", 1, 1, NAME);
        dueTokens("a b", 0, 1, NAME, 2, 1, NAME);
        dueTokens("1\n2", 0, 1, NUMBER, 2, 1, NUMBER);
        // 33 is the character next to a blank.
        dueTokens(" ! ", 1, 1, BAD);
    }

    private static void comments() {
        Check.sentence("COMMENTS, from a # up to the next newline or the end of the text");
        dueTokens("#");
        dueTokens("#\n");
        dueTokens("#a");
        dueTokens("#\na", 2, 1, NAME);
        dueTokens("#a\nb", 3, 1, NAME);
        dueTokens("#\n\n#a#b\n c", 9, 1, NAME);
        dueTokens("a#b", 0, 1, NAME);
        dueTokens("a#\nb", 0, 1, NAME, 3, 1, NAME);
        dueTokens("1#2\n3", 0, 1, NUMBER, 4, 1, NUMBER);
        dueTokens("# a = 1 ; $ { # b \" ");
        dueTokens("#\"\n\"\"", 3, 2, STRING);
        dueTokens("=#\n=", 0, 1, SIGN, 3, 1, SIGN);
        dueTokens("a" + "#".repeat(159), 0, 1, NAME);
        dueTokens("#".repeat(158) + "\na", 159, 1, NAME);
        dueTokens(" ".repeat(159) + "#");
        // 34 and 36 are the characters next to #.
        dueTokens("$a", 0, 1, BAD, 1, 1, NAME);
    }

    private static void names() {
        Check.sentence("a lower-case letter a NAME, of it and all such letters right behind");
        for (char c = 'a'; c <= 'z'; c++) {
            dueTokens("" + c, 0, 1, NAME);
            dueTokens(";" + c + c + ";", 0, 1, SIGN, 1, 2, NAME, 3, 1, SIGN);
        }
        dueTokens("az", 0, 2, NAME);
        dueTokens("abcdefghijklmnopqrstuvwxyz", 0, 26, NAME);
        dueTokens("a".repeat(159), 0, 159, NAME);
        dueTokens("z".repeat(160), 0, 160, NAME);
        dueTokens("ab12cd", 0, 2, NAME, 2, 2, NUMBER, 4, 2, NAME);
        // 96 and 123 are the characters next to a .. z.
        dueTokens("a`b", 0, 1, NAME, 1, 1, BAD, 2, 1, NAME);
        dueTokens("y{z", 0, 1, NAME, 1, 1, SIGN, 2, 1, NAME);
        dueTokens("aBc", 0, 1, NAME, 1, 1, BAD, 2, 1, NAME);
        dueTokens("AZ", 0, 1, BAD, 1, 1, BAD);
        dueTokens("a_b", 0, 1, NAME, 1, 1, BAD, 2, 1, NAME);
    }

    private static void numbers() {
        Check.sentence("a digit a NUMBER, of it and all digits right behind");
        for (char c = '0'; c <= '9'; c++) {
            dueTokens("" + c, 0, 1, NUMBER);
            dueTokens("-" + c + c + "-", 0, 1, SIGN, 1, 2, NUMBER, 3, 1, SIGN);
        }
        dueTokens("0123456789", 0, 10, NUMBER);
        dueTokens("9".repeat(159), 0, 159, NUMBER);
        dueTokens("0".repeat(160), 0, 160, NUMBER);
        dueTokens("1a2", 0, 1, NUMBER, 1, 1, NAME, 2, 1, NUMBER);
        // 47 and 58 are the characters next to 0 .. 9.
        dueTokens("0/9", 0, 1, NUMBER, 1, 1, BAD, 2, 1, NUMBER);
        dueTokens("0:9", 0, 1, NUMBER, 1, 1, BAD, 2, 1, NUMBER);
        dueTokens("1.5", 0, 1, NUMBER, 1, 1, BAD, 2, 1, NUMBER);
        dueTokens("-1", 0, 1, SIGN, 1, 1, NUMBER);
    }

    private static void strings() {
        Check.sentence("a \" a STRING, up to the next \" (which belongs to it), newlines and # included");
        dueTokens("\"\"", 0, 2, STRING);
        dueTokens("\"a\"", 0, 3, STRING);
        dueTokens("\"a;b\"c", 0, 5, STRING, 5, 1, NAME);
        dueTokens("\"\n\"", 0, 3, STRING);
        dueTokens("\"#\"", 0, 3, STRING);
        dueTokens("\"#\n#\"x", 0, 5, STRING, 5, 1, NAME);
        dueTokens("a\"b\"c", 0, 1, NAME, 1, 3, STRING, 4, 1, NAME);
        dueTokens("\"a\"\"b\"", 0, 3, STRING, 3, 3, STRING);
        dueTokens("\"\"\"\"", 0, 2, STRING, 2, 2, STRING);
        dueTokens("\"" + "#".repeat(158) + "\"", 0, 160, STRING);
        dueTokens(" ".repeat(158) + "\"\"", 158, 2, STRING);
        dueTokens("\"\"".repeat(2) + "#\"", 0, 2, STRING, 2, 2, STRING);
    }

    private static void stringsWithoutAnEnd() {
        Check.sentence("but if there is none, all up to the end of the text is one BAD token");
        dueTokens("\"", 0, 1, BAD);
        dueTokens("\"a", 0, 2, BAD);
        dueTokens("\" ", 0, 2, BAD);
        dueTokens("\"\n", 0, 2, BAD);
        dueTokens("\"#", 0, 2, BAD);
        dueTokens("a\" #\n b ", 0, 1, NAME, 1, 7, BAD);
        dueTokens("\"\"\"", 0, 2, STRING, 2, 1, BAD);
        dueTokens("\"\" \"b", 0, 2, STRING, 3, 2, BAD);
        dueTokens("\"" + " ".repeat(158), 0, 159, BAD);
        dueTokens("\"" + " ".repeat(159), 0, 160, BAD);
        dueTokens(" ".repeat(159) + "\"", 159, 1, BAD);
        dueTokens("\n".repeat(158) + "\"a", 158, 2, BAD);
    }

    private static void signs() {
        Check.sentence("each of = ; + - * ( ) { } , is a SIGN");
        for (char c : "=;+-*(){},".toCharArray()) {
            dueTokens("" + c, 0, 1, SIGN);
            dueTokens("" + c + c, 0, 1, SIGN, 1, 1, SIGN);
            dueTokens("a" + c + "1", 0, 1, NAME, 1, 1, SIGN, 2, 1, NUMBER);
        }
    }

    private static void otherCharacters() {
        Check.sentence("any other character is a BAD token of itself");
        for (char c : "!$%&'./:<>?@ABCDEFGHIJKLMNOPQRSTUVWXYZ[\\]^_`|~".toCharArray()) {
            dueTokens("" + c, 0, 1, BAD);
            dueTokens("" + c + c, 0, 1, BAD, 1, 1, BAD);
            dueTokens("a" + c + "1", 0, 1, NAME, 1, 1, BAD, 2, 1, NUMBER);
        }
    }

    private static void tokensAreCounted() {
        Check.sentence("Promise 7: The number of tokens.");
        Check.due("tokens() of none", Check.of("").tokens(), 0);
        Check.due("tokens() of blanks and a comment", Check.of(" \n# a").tokens(), 0);
        Check.due("tokens() of one", Check.of("a").tokens(), 1);
        Check.due("tokens() of 159", Check.of(";".repeat(159)).tokens(), 159);
        Check.due("tokens() of 159 and a blank", Check.of(";".repeat(159) + " ").tokens(), 159);
        Check.due("tokens() of 160", Check.of("$".repeat(160)).tokens(), 160);
        KeptItems x = Check.of("a=1;$b");
        Check.due("tokens() with a fault", x.tokens(), 6);
        Check.type(x, "c");
        Check.due("tokens() beside a row", x.tokens(), 6);
        Check.edit(x, 1, 5);
        Check.due("tokens() of the text that came last", x.tokens(), 1);
        Check.edit(x, 0, 2);
        Check.due("tokens() of an empty text", x.tokens(), 0);
    }

    private static void tokenIsPacked() {
        Check.sentence("Promise 8: Token k: place * 2048 + length * 8 + kind.");
        Check.due("the smallest", Check.token(Check.of("a"), 0), 8);
        Check.due("the longest", Check.token(Check.of("\"" + "a".repeat(159)), 0), 160 * 8 + 4);
        Check.due("the last place", Check.token(Check.of("{".repeat(160)), 159), 159 * 2048 + 8 + 3);
        KeptItems x = Check.of("ab 7;\"x\"$");
        int[] due = {16, 3 * 2048 + 8 + 1, 4 * 2048 + 8 + 3, 5 * 2048 + 24 + 2, 8 * 2048 + 8 + 4};
        for (int k = 0; k < due.length; k++) {
            Check.due("token(" + k + ")", Check.token(x, k), due[k]);
        }
        Check.edit(x, 0, 3);
        Check.due("token(0) of the text that came last", Check.token(x, 0), 8 + 1);
    }

    private static void tokenThrows() {
        Check.sentence("Promise 8: IndexOutOfBoundsException if there is none.");
        for (int count : new int[] {0, 1, 2, 159, 160}) {
            KeptItems x = Check.of(";".repeat(count));
            Check.due(count + ": token(-1)", Check.token(x, -1), Check.INDEX);
            Check.due(count + ": token(count)", Check.token(x, count), Check.INDEX);
            Check.due(count + ": token(count + 1)", Check.token(x, count + 1), Check.INDEX);
            Check.due(count + ": token of the last", Check.token(x, count - 1), count == 0 ? Check.INDEX : (count - 1) * 2048 + 11);
            for (int k : new int[] {161, -160, Integer.MIN_VALUE, Integer.MAX_VALUE}) {
                Check.due(count + ": token(" + k + ")", Check.token(x, k), Check.INDEX);
            }
        }
        KeptItems y = Check.of("a=1;");
        Check.edit(y, 2, 2);
        Check.due("what was there: token(1)", Check.token(y, 1), 2048 + 11);
        Check.due("what was there: token(2)", Check.token(y, 2), Check.INDEX);
        Check.due("what was there: token(3)", Check.token(y, 3), Check.INDEX);
        Check.edit(y, 0, 0, "#");
        Check.due("what was there: token(0)", Check.token(y, 0), Check.INDEX);
    }
}
