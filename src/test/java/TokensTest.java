/** Promises 4, 7 and 8: what tokens there are, and how many of the new ones did not stay. */
public final class TokensTest {
    public static void main(String[] args) {
        kinds();
        blanksAndComments();
        strings();
        wrongTokens();
        whatStays();
        whatAnEditInsideATokenDoes();
        whatTheRowLetsGrow();
        Check.finish("TokensTest");
    }

    /** The tokens are looked for as place, length and kind. */
    private static void dueTokens(String text, int... rows) {
        KeptItems x = Check.of(text);
        Check.due(text + ": tokens()", x.tokens(), rows.length / 3);
        for (int k = 0; k < rows.length / 3; k++) {
            int packed = rows[3 * k] * 2048 + rows[3 * k + 1] * 8 + rows[3 * k + 2];
            Check.due(text + ": token(" + k + ")", Check.token(x, k), packed);
        }
        Check.due(text + ": token behind the last", Check.token(x, rows.length / 3), Check.INDEX);
        Check.due(text + ": token(-1)", Check.token(x, -1), Check.INDEX);
    }

    private static void kinds() {
        dueTokens("");
        dueTokens("abz", 0, 3, KeptItems.NAME);
        dueTokens("0189", 0, 4, KeptItems.NUMBER);
        dueTokens("ab12cd", 0, 2, KeptItems.NAME, 2, 2, KeptItems.NUMBER, 4, 2, KeptItems.NAME);
        dueTokens("a b", 0, 1, KeptItems.NAME, 2, 1, KeptItems.NAME);
        for (char c = 33; c <= 126; c++) {
            if (c != '#') {
                boolean sign = c == '=' || c == ';' || c == '+' || c == '-' || c == '*' || c == '('
                    || c == ')' || c == '{' || c == '}' || c == ',';
                int kind = sign ? KeptItems.SIGN : c >= 'a' && c <= 'z' ? KeptItems.NAME
                    : c >= '0' && c <= '9' ? KeptItems.NUMBER : KeptItems.BAD;
                dueTokens(" " + c, 1, 1, kind);
            }
        }
        dueTokens("$$", 0, 1, KeptItems.BAD, 1, 1, KeptItems.BAD);
        dueTokens("==", 0, 1, KeptItems.SIGN, 1, 1, KeptItems.SIGN);
        dueTokens("aBc", 0, 1, KeptItems.NAME, 1, 1, KeptItems.BAD, 2, 1, KeptItems.NAME);
        dueTokens("a".repeat(160), 0, 160, KeptItems.NAME);
        KeptItems x = Check.of(";".repeat(160));
        Check.due("160 signs: tokens()", x.tokens(), 160);
        Check.due("160 signs: token(159)", Check.token(x, 159), 159 * 2048 + 8 + KeptItems.SIGN);
        Check.due("160 signs: token(160)", Check.token(x, 160), Check.INDEX);
    }

    private static void blanksAndComments() {
        dueTokens("  \n \n");
        dueTokens("#");
        dueTokens("# a = 1 ; \" $ # b");
        dueTokens("#a\nb", 3, 1, KeptItems.NAME);
        dueTokens("a#b\n#c\n\n d#", 0, 1, KeptItems.NAME, 9, 1, KeptItems.NAME);
        dueTokens("1#\n2", 0, 1, KeptItems.NUMBER, 3, 1, KeptItems.NUMBER);
        dueTokens("#\"\n\"\"", 3, 2, KeptItems.STRING);
    }

    private static void strings() {
        dueTokens("\"\"", 0, 2, KeptItems.STRING);
        dueTokens("\"a;b\"c", 0, 5, KeptItems.STRING, 5, 1, KeptItems.NAME);
        dueTokens("\"#\n#\"x", 0, 5, KeptItems.STRING, 5, 1, KeptItems.NAME);
        dueTokens("\"\"\"", 0, 2, KeptItems.STRING, 2, 1, KeptItems.BAD);
        dueTokens("\"a\"\"b\"", 0, 3, KeptItems.STRING, 3, 3, KeptItems.STRING);
        dueTokens("a\" #\n b ", 0, 1, KeptItems.NAME, 1, 7, KeptItems.BAD);
        dueTokens("\"" + " ".repeat(159), 0, 160, KeptItems.BAD);
        dueTokens("\"" + "#".repeat(158) + "\"", 0, 160, KeptItems.STRING);
    }

    private static void wrongTokens() {
        KeptItems x = Check.of("a=1;");
        for (int k : new int[] {-1, 4, 160, 161, Integer.MIN_VALUE, Integer.MAX_VALUE}) {
            Check.due("token(" + k + ")", Check.token(x, k), Check.INDEX);
        }
    }

    private static void dueNew(String text, int at, int gone, String row, int due) {
        KeptItems x = Check.of(text);
        Check.due(text + ": edit(" + at + ", " + gone + ") with " + row, Check.edit(x, at, gone, row), due);
    }

    private static void whatStays() {
        dueNew("a=1;", 0, 0, "b=2;", 4);
        dueNew("a=1;", 4, 0, "b=2;", 4);
        dueNew("a=1;", 2, 0, " ", 0);
        dueNew("a=1;", 2, 1, "2", 1);
        dueNew("a=1;", 2, 1, "1", 1);
        dueNew("a=1;", 1, 2, "", 0);
        dueNew("a=1;", 0, 4, "a=1;", 4);
        dueNew("a=1;", 0, 0, "", 0);
        dueNew("a = 1;", 1, 1, "", 0);
        dueNew("a b", 1, 1, "", 1);
        dueNew("a b", 1, 1, "\n", 0);
        dueNew("a b", 1, 1, "#", 0);
        dueNew("12 + 3", 3, 1, "+ +", 3 - 1);
    }

    private static void whatAnEditInsideATokenDoes() {
        dueNew("abc", 1, 0, "", 1);
        dueNew("abc", 0, 0, "", 0);
        dueNew("abc", 3, 0, "", 0);
        dueNew("abc", 1, 1, "b", 1);
        dueNew("abc", 1, 0, " ", 2);
        dueNew("abc", 1, 0, "1", 3);
        dueNew("\"a\"", 1, 1, "a", 1);
        dueNew("abc=1;", 2, 0, "", 1);
        dueNew("a=1", 1, 0, "", 0);
    }

    private static void whatTheRowLetsGrow() {
        dueNew("ab", 2, 0, "c", 1);
        dueNew("ab", 0, 0, "c", 1);
        dueNew("ab", 2, 0, "1", 1);
        dueNew("a\"b\"c", 0, 0, "\"", 3);
        dueNew("a=\"x\";b=\"y\";", 2, 1, "", 4);
        dueNew("\"a", 2, 0, "\"", 1);
        dueNew("\"a", 0, 0, " ", 0);
        dueNew("\"a", 2, 0, " ", 1);
        dueNew("\"a\"", 2, 1, "", 1);
        dueNew("#a b\nc", 0, 1, "", 2);
        dueNew("a b\nc", 0, 0, "#", 0);
        // With a quote less, the quotes behind it change their parts.
        dueNew("\"\"\"\"", 0, 1, "", 2);
        dueNew("x\"a\"", 0, 1, "\"", 3);
        dueNew("\"b\"", 0, 0, "\"", 3);
    }
}
