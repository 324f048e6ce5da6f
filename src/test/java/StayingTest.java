/** Which tokens stay, sentence by sentence: "Terms" and what promise 4 says of the answer. */
public final class StayingTest {
    public static void main(String[] args) {
        allOfItBefore();
        allOfItBehind();
        insideAToken();
        sameKind();
        sameLength();
        atItsPlace();
        atItsPlaceMoved();
        howManyDidNotStay();
        Check.finish("StayingTest");
    }

    /** How many of the new tokens are due not to stay. */
    private static void dueNew(String text, int at, int gone, String row, int due) {
        KeptItems x = Check.of(text);
        Check.due(text + ": edit(" + at + ", " + gone + ") with " + row, Check.edit(x, at, gone, row), due);
    }

    private static void allOfItBefore() {
        Check.sentence("An old token (before the edit) STAYS if all of it is before the stretch");
        // The name ends one before the stretch, at it, and one behind its begin.
        dueNew("abc ;", 4, 1, ";", 1);
        dueNew("abc;", 3, 1, ";", 1);
        dueNew("abc;", 2, 2, "c;", 2);
        dueNew("abc;", 2, 1, "c", 1);
        dueNew("abc", 2, 1, "c", 1);
        dueNew("\"b\"", 2, 1, "\"", 1);
        dueNew("\"b\" ", 3, 1, "\n", 0);
        dueNew("abc", 3, 0, "", 0);
        dueNew("a=1;", 4, 0, "b=2;", 4);
    }

    private static void allOfItBehind() {
        Check.sentence("An old token (before the edit) STAYS if all of it is .. all behind it");
        // The name begins one behind the stretch, at its end, and one before its end.
        dueNew("; abc", 0, 1, ";", 1);
        dueNew(";abc", 0, 1, ";", 1);
        dueNew(";abc", 0, 2, ";a", 2);
        dueNew(";abc", 1, 1, "a", 1);
        dueNew("abc", 0, 1, "a", 1);
        dueNew("\"b\"", 0, 1, "\"", 1);
        dueNew(" \"b\"", 0, 1, "\n", 0);
        dueNew("abc", 0, 0, "", 0);
        dueNew("a=1;", 0, 0, "b=2;", 4);
    }

    private static void insideAToken() {
        Check.sentence("STAYS if all of it is before the stretch or all behind it (a stretch of none inside a token)");
        dueNew("abc", 0, 0, "", 0);
        dueNew("abc", 1, 0, "", 1);
        dueNew("abc", 2, 0, "", 1);
        dueNew("abc", 3, 0, "", 0);
        dueNew("\"\"", 1, 0, "", 1);
        dueNew("12;", 1, 0, "", 1);
        dueNew("12;", 2, 0, "", 0);
        dueNew("\"", 1, 0, "", 0);
        dueNew("a=1", 1, 0, "", 0);
        dueNew("ab=1;", 1, 0, "", 1);
        dueNew("# ab", 3, 0, "", 0);
    }

    private static void sameKind() {
        Check.sentence("and there is a new token of the same kind");
        dueNew("\"a", 2, 0, "\"", 1);
        dueNew("\"a\"", 2, 1, "", 1);
        dueNew("a", 0, 1, "1", 1);
        dueNew("a", 0, 1, "=", 1);
        dueNew("=", 0, 1, "$", 1);
        // A token of an edit before the last is no new one.
        KeptItems x = Check.of("a b");
        Check.due("nothing in, nothing out", Check.edit(x, 0, 0), 0);
        Check.due("b goes into a comment", Check.edit(x, 1, 1, "#"), 0);
        // In a comment or a string there are no tokens.
        dueNew("a b\nc", 0, 0, "#", 0);
        dueNew("#a b\nc", 0, 1, "", 2);
        dueNew("a b\"", 0, 0, "\"", 1);
    }

    private static void sameLength() {
        Check.sentence("and there is a new token of the same .. length");
        dueNew("ab", 2, 0, "c", 1);
        dueNew("ab", 2, 0, " c", 1);
        dueNew("ab", 0, 0, "c", 1);
        dueNew("ab", 0, 0, "c ", 1);
        dueNew("ab", 2, 0, "1", 1);
        dueNew("ab", 0, 0, "1", 1);
        dueNew("12", 2, 0, "3", 1);
        dueNew("12", 0, 0, "3", 1);
        dueNew("a b", 1, 1, "", 1);
        dueNew("a b", 1, 1, "\n", 0);
        dueNew("a b", 1, 1, "#", 0);
        dueNew("a#\nb", 1, 2, "", 1);
        dueNew("a=b", 1, 1, "", 1);
        dueNew("a;b", 1, 0, " ", 0);
        dueNew("\"a", 2, 0, " ", 1);
        dueNew("\"a", 0, 0, " ", 0);
        dueNew("\"a ", 2, 1, "", 1);
        dueNew("\"a\" \"b\"", 2, 1, "", 3);
        dueNew("==", 1, 0, "=", 1);
        dueNew("$$", 1, 0, "$", 1);
    }

    private static void atItsPlace() {
        Check.sentence("at its place");
        dueNew("ab cd", 3, 2, "", 0);
        dueNew("ab cd", 2, 3, "", 0);
        dueNew("ab cd", 3, 2, "cd", 1);
        dueNew("ab cd", 5, 0, " ef", 1);
        dueNew("a=1;", 4, 0, "a=1;", 4);
        dueNew("a=1;", 0, 4, "a=1;", 4);
        dueNew("a=1;", 2, 1, "1", 1);
    }

    private static void atItsPlaceMoved() {
        Check.sentence("or, if it is behind, at its place plus the row's length less the stretch's");
        dueNew("ab cd", 0, 2, "", 0);
        dueNew("ab cd", 0, 3, "", 0);
        dueNew("ab cd", 0, 2, "xy", 1);
        dueNew("ab cd", 0, 2, "x", 1);
        dueNew("ab cd", 0, 2, "xyz", 1);
        dueNew("ab cd", 2, 1, "    ", 0);
        dueNew("ab cd", 0, 0, " ".repeat(40), 0);
        dueNew(" ".repeat(158) + "ab", 0, 158, "", 0);
        dueNew(" ".repeat(120) + "a=1;", 0, 120, ";".repeat(40), 40);
        // At the old place of the second a there is one too, but it is in what the row has put in.
        dueNew("a a", 0, 0, "a ", 1);
        dueNew(" a", 0, 0, " a", 1);
        dueNew("a=1;a=1;", 0, 4, "", 0);
        dueNew("a=1;a=1;", 4, 4, "", 0);
    }

    private static void howManyDidNotStay() {
        Check.sentence("Promise 4: Answers how many of the new tokens did not stay.");
        dueNew("", 0, 0, "", 0);
        dueNew("", 0, 0, " #a", 0);
        dueNew("", 0, 0, "a", 1);
        dueNew("", 0, 0, ";".repeat(40), 40);
        dueNew(";".repeat(160), 0, 160, "", 0);
        dueNew(";".repeat(160), 80, 40, "$".repeat(40), 40);
        dueNew(";".repeat(160), 80, 40, "a".repeat(40), 1);
        dueNew("a=1;", 1, 2, "", 0);
        dueNew("a = 1;", 1, 1, "", 0);
        dueNew("12 + 3", 3, 1, "+ +", 2);
        dueNew("abc", 1, 0, " ", 2);
        dueNew("abc", 1, 0, "1", 3);
        // The quotes behind change their parts: nothing else of these texts is edited.
        dueNew("\"\"\"\"", 0, 1, "", 2);
        dueNew("a\"b\"c", 0, 0, "\"", 3);
        dueNew("a=\"x\";b=\"y\";", 2, 1, "", 4);
        dueNew("#" + ";".repeat(159), 0, 1, "", 159);
        dueNew(";".repeat(159), 0, 0, "#", 0);
    }
}
