/** The text, the row and the edit, sentence by sentence: "Terms" and promises 1 to 6. */
public final class TextTest {
    private static final String FORTY = "a=1;b=2;c=3;d=4;e=5;f=6;g=7;h=8;i=9;j=0;";
    private static final String FULL = FORTY + FORTY + FORTY + FORTY;
    private static final int[] FAR = {
        Integer.MIN_VALUE, Integer.MIN_VALUE + 1, -2048, -160, -2, 162, 2048, Integer.MAX_VALUE - 1, Integer.MAX_VALUE,
    };

    public static void main(String[] args) {
        aNewObject();
        theTextHasAtMost160();
        whichCharactersThereAre();
        placesFromZero();
        theRowHasAtMost40();
        anEditTakesOutAndPutsIn();
        typeAdds();
        typeRefusesACharacter();
        typeRefusesInAFullRow();
        wipeEmpties();
        wipeAnswers();
        editTakesTheStretch();
        editEmptiesTheRow();
        editThrowsAtAWrongPlace();
        editThrowsForNegativeGone();
        editThrowsBeyondTheEnd();
        editThrowsForALongText();
        editChangesNothingWhenItThrows();
        wrongStretchAndLongText();
        lengthCounts();
        atAnswers();
        atAnswersZero();
        objectsAreApart();
        Check.finish("TextTest");
    }

    private static void aNewObject() {
        Check.sentence("Promise 1: An empty text, an empty row; no item had a number.");
        KeptItems x = new KeptItems();
        Check.due("new: length()", x.length(), 0);
        Check.due("new: at(0)", x.at(0), 0);
        Check.due("new: tokens()", x.tokens(), 0);
        Check.due("new: token(0)", Check.token(x, 0), Check.INDEX);
        Check.due("new: fault()", x.fault(), KeptItems.NONE);
        Check.due("new: items()", x.items(), 0);
        Check.due("new: kept()", x.kept(), 0);
        Check.due("new: number(0)", x.number(0), KeptItems.NONE);
        Check.due("new: which(0)", x.which(0), KeptItems.NONE);
        Check.due("new: begin(0)", Check.begin(x, 0), Check.INDEX);
        Check.due("new: end(0)", Check.end(x, 0), Check.INDEX);
        Check.due("new: level(0)", x.level(0), KeptItems.NONE);
        Check.due("new: value(0)", Check.value(x, 0), Check.INDEX);
        Check.due("new: wipe()", x.wipe(), 0);
        Check.due("new: edit(0, 0)", Check.edit(x, 0, 0), 0);
        Check.due("new, edited by nothing: length()", x.length(), 0);
        Check.edit(x, 0, 0, "a=1;");
        Check.due("new: the first number", x.number(0), 0);
    }

    private static void theTextHasAtMost160() {
        Check.sentence("THE TEXT is a row of at most 160 characters");
        for (int place : new int[] {0, 80, 158}) {
            KeptItems x = Check.of(FULL.substring(0, 158));
            Check.due("158 and 1 at " + place, Check.edit(x, place, 0, "\n"), 0);
            Check.due("159: length()", x.length(), 159);
            Check.due("159 and 1 at " + place, Check.edit(x, place, 0, "\n"), 0);
            Check.due("160: length()", x.length(), 160);
            Check.due("160 and 1 at " + place, Check.edit(x, place, 0, "\n"), Check.STATE);
            Check.due("160 still: length()", x.length(), 160);
        }
    }

    private static void whichCharactersThereAre() {
        Check.sentence("each a newline (10) or 32 .. 126");
        StringBuilder all = new StringBuilder("\n");
        for (char c = 32; c <= 126; c++) {
            all.append(c);
        }
        KeptItems x = Check.of(all.toString());
        Check.dueText("every character", x, all.toString());
        for (int c : new int[] {9, 11, 31, 127}) {
            Check.due("type((char) " + c + ")", x.type((char) c), false);
        }
        Check.edit(x, 0, 0);
        Check.dueText("no other character", x, all.toString());
    }

    private static void placesFromZero() {
        Check.sentence("places counted from 0");
        KeptItems x = Check.of("bc");
        Check.edit(x, 0, 0, "a");
        Check.due("at(0)", x.at(0), 'a');
        Check.due("at(1)", x.at(1), 'b');
        Check.edit(x, 1, 1, "");
        Check.dueText("place 1 out", x, "ac");
        Check.edit(x, 0, 1, "");
        Check.dueText("place 0 out", x, "c");
    }

    private static void theRowHasAtMost40() {
        Check.sentence("THE ROW, beside it, has at most 40.");
        KeptItems x = Check.of("xyz");
        Check.type(x, FORTY.substring(0, 39));
        Check.due("the 40th", x.type(';'), true);
        Check.due("the 41st", x.type('k'), false);
        Check.dueText("beside the text", x, "xyz");
        Check.edit(x, 0, 3);
        Check.dueText("40 put in", x, FORTY);
    }

    private static void anEditTakesOutAndPutsIn() {
        Check.sentence("An EDIT takes a STRETCH of the text out (so many characters from a place on) and puts the row in there.");
        KeptItems x = Check.of("abcdef");
        Check.edit(x, 2, 2, "XYZ");
        Check.dueText("more in than out", x, "abXYZef");
        Check.edit(x, 2, 3, "QR");
        Check.dueText("less in than out", x, "abQRef");
        Check.edit(x, 2, 2, "qr");
        Check.dueText("as much in as out", x, "abqref");
        Check.edit(x, 3, 0, "__");
        Check.dueText("in only", x, "abq__ref");
        Check.edit(x, 1, 5, "");
        Check.dueText("out only", x, "aef");
        Check.edit(x, 1, 0, "");
        Check.dueText("nothing in, nothing out", x, "aef");
        Check.edit(x, 0, 3, FORTY);
        Check.dueText("all out, a full row in", x, FORTY);
        Check.edit(x, 0, 40, "");
        Check.dueText("all out", x, "");
    }

    private static void typeAdds() {
        Check.sentence("Promise 2: Adds a character to the row. Answers true");
        KeptItems x = new KeptItems();
        Check.due("type of the first", x.type('b'), true);
        Check.due("type of the second", x.type('a'), true);
        Check.due("type of the same once more", x.type('a'), true);
        Check.due("type: length()", x.length(), 0);
        Check.due("type: wipe()", x.wipe(), 3);
        Check.type(x, "ba\na ");
        Check.edit(x, 0, 0);
        Check.dueText("in the order of the calls", x, "ba\na ");
    }

    private static void typeRefusesACharacter() {
        Check.sentence("Promise 2: refused with false if c is neither 10 nor 32 .. 126");
        for (int from = 0; from <= Character.MAX_VALUE; from += 128) {
            KeptItems x = new KeptItems();
            for (int c = from; c < from + 128; c++) {
                boolean fits = c == 10 || c >= 32 && c <= 126;
                Check.due("type((char) " + c + ")", x.type((char) c), fits);
                Check.due("wipe() behind type((char) " + c + ")", x.wipe(), fits ? 1 : 0);
            }
        }
        KeptItems y = new KeptItems();
        Check.type(y, "ab");
        Check.due("type((char) 31) between others", y.type((char) 31), false);
        Check.due("type((char) 127) between others", y.type((char) 127), false);
        Check.type(y, "c");
        Check.edit(y, 0, 0);
        Check.dueText("refused ones are not in the row", y, "abc");
    }

    private static void typeRefusesInAFullRow() {
        Check.sentence("Promise 2: refused with false if .. the row has 40");
        KeptItems x = new KeptItems();
        for (int n = 0; n < 39; n++) {
            x.type(FORTY.charAt(n));
        }
        Check.due("type((char) 127) with 39", x.type((char) 127), false);
        Check.due("type with 39", x.type(FORTY.charAt(39)), true);
        for (char c : new char[] {'k', '\n', ' ', '~', 127}) {
            Check.due("type((char) " + (int) c + ") with 40", x.type(c), false);
        }
        Check.edit(x, 0, 0);
        Check.dueText("the 40 are still there", x, FORTY);
        Check.due("type behind an edit", x.type('k'), true);
        for (int n = 0; n < 39; n++) {
            Check.due("type behind an edit, " + n + " more", x.type('k'), true);
        }
        Check.due("type with 40 behind an edit", x.type('k'), false);
        Check.due("wipe() of these", x.wipe(), 40);
        Check.due("type behind wipe", x.type('k'), true);
        Check.due("wipe() of that", x.wipe(), 1);
    }

    private static void wipeEmpties() {
        Check.sentence("Promise 3: The row becomes empty.");
        KeptItems x = Check.of("ab");
        Check.type(x, FORTY);
        x.wipe();
        Check.dueText("the text stays", x, "ab");
        Check.due("edit behind wipe", Check.edit(x, 2, 0), 0);
        Check.dueText("nothing put in", x, "ab");
        Check.type(x, "cd");
        x.wipe();
        Check.edit(x, 2, 0, "e");
        Check.dueText("only what came behind wipe", x, "abe");
    }

    private static void wipeAnswers() {
        Check.sentence("Promise 3: Answers how many characters it had.");
        for (int size : new int[] {0, 1, 2, 39, 40}) {
            KeptItems x = new KeptItems();
            Check.type(x, FORTY.substring(0, size));
            Check.due("wipe() of " + size, x.wipe(), size);
            Check.due("wipe() behind it", x.wipe(), 0);
        }
        KeptItems y = new KeptItems();
        Check.type(y, FORTY);
        y.type('k');
        Check.due("wipe() behind a refused character", y.wipe(), 40);
    }

    private static void dueEdited(String text, int at, int gone, String row, String due) {
        KeptItems x = Check.of(text);
        Check.edit(x, at, gone, row);
        Check.dueText(text + ": edit(" + at + ", " + gone + ") with " + row, x, due);
    }

    private static void editTakesTheStretch() {
        Check.sentence("Promise 4: The edit of the stretch from a place on with so many characters");
        dueEdited("", 0, 0, "x", "x");
        dueEdited("abc", 0, 0, "x", "xabc");
        dueEdited("abc", 3, 0, "x", "abcx");
        dueEdited("abc", 0, 1, "x", "xbc");
        dueEdited("abc", 2, 1, "x", "abx");
        dueEdited("abc", 0, 3, "x", "x");
        dueEdited("abc", 0, 2, "x", "xc");
        dueEdited("abc", 1, 2, "x", "ax");
        dueEdited(FULL, 160, 0, "", FULL);
        dueEdited(FULL, 0, 160, "", "");
        dueEdited(FULL, 159, 1, "x", FULL.substring(0, 159) + "x");
        dueEdited(FULL, 0, 1, "x", "x" + FULL.substring(1));
        dueEdited(FULL, 80, 40, FORTY.toUpperCase(), FORTY + FORTY + FORTY.toUpperCase() + FORTY);
    }

    private static void editEmptiesTheRow() {
        Check.sentence("Promise 4: the row becomes empty");
        for (int size : new int[] {0, 1, 39, 40}) {
            KeptItems x = new KeptItems();
            Check.edit(x, 0, 0, FORTY.substring(0, size));
            Check.due("wipe() behind an edit with " + size, x.wipe(), 0);
            Check.edit(x, size, 0);
            Check.due("the next edit puts nothing in", x.length(), size);
            Check.type(x, FORTY);
            Check.due("the next row has 40 too", x.type('k'), false);
        }
    }

    private static void dueThrown(KeptItems x, int at, int gone, long due) {
        Check.due("length " + x.length() + ": edit(" + at + ", " + gone + ")", Check.edit(x, at, gone), due);
    }

    private static void editThrowsAtAWrongPlace() {
        Check.sentence("Promise 4: IndexOutOfBoundsException if there is no such stretch (at is not 0 .. length(), ..");
        for (int size : new int[] {0, 1, 80, 159, 160}) {
            KeptItems x = Check.of(FULL.substring(0, size));
            dueThrown(x, -1, 0, Check.INDEX);
            dueThrown(x, -1, 1, Check.INDEX);
            dueThrown(x, -1, size + 1, Check.INDEX);
            dueThrown(x, size + 1, 0, Check.INDEX);
            for (int at : FAR) {
                dueThrown(x, at, 0, Check.INDEX);
            }
            dueThrown(x, 0, 0, 0);
            dueThrown(x, size, 0, 0);
        }
    }

    private static void editThrowsForNegativeGone() {
        Check.sentence("Promise 4: IndexOutOfBoundsException if .. gone is negative");
        for (int size : new int[] {0, 1, 160}) {
            KeptItems x = Check.of(FULL.substring(0, size));
            for (int at : new int[] {0, size / 2, size, size + 1}) {
                dueThrown(x, at, -1, Check.INDEX);
                dueThrown(x, at, Integer.MIN_VALUE, Check.INDEX);
                dueThrown(x, at, Integer.MIN_VALUE + 1, Check.INDEX);
            }
            dueThrown(x, -1, -1, Check.INDEX);
            dueThrown(x, size / 2, 0, 0);
        }
    }

    private static void editThrowsBeyondTheEnd() {
        Check.sentence("Promise 4: IndexOutOfBoundsException if .. gone .. reaches beyond the end");
        for (int size : new int[] {0, 1, 4, 160}) {
            for (int at : new int[] {0, size / 2, size - 1, size}) {
                if (at >= 0) {
                    KeptItems x = Check.of(FULL.substring(0, size));
                    dueThrown(x, at, size - at + 1, Check.INDEX);
                    dueThrown(x, at, Integer.MAX_VALUE, Check.INDEX);
                    dueThrown(x, at, Integer.MAX_VALUE - at, Check.INDEX);
                    dueThrown(x, at, Integer.MAX_VALUE - at + 1, Check.INDEX);
                    Check.due("to the end", Check.edit(x, at, size - at) >= 0, true);
                    Check.due("to the end: length()", x.length(), at);
                }
            }
        }
        KeptItems y = Check.of("abcd");
        Check.due("up to the last but one", Check.edit(y, 1, 2), 1);
        Check.dueText("up to the last but one", y, "ad");
        dueThrown(y, Integer.MAX_VALUE, Integer.MAX_VALUE, Check.INDEX);
        dueThrown(y, Integer.MIN_VALUE, Integer.MIN_VALUE, Check.INDEX);
    }

    private static void editThrowsForALongText() {
        Check.sentence("Promise 4: IllegalStateException if the text would have more than 160 characters");
        KeptItems x = Check.of(FULL);
        Check.type(x, FORTY.toUpperCase());
        for (int gone : new int[] {0, 1, 38, 39}) {
            dueThrown(x, 0, gone, Check.STATE);
            dueThrown(x, 160 - gone, gone, Check.STATE);
        }
        Check.due("40 out, 40 in", Check.edit(x, 120, 40) >= 0, true);
        Check.due("40 out, 40 in: length()", x.length(), 160);
        KeptItems y = Check.of(FULL.substring(0, 121));
        Check.type(y, FORTY);
        dueThrown(y, 121, 0, Check.STATE);
        Check.due("1 out, 40 in", Check.edit(y, 120, 1) >= 0, true);
        Check.due("1 out, 40 in: length()", y.length(), 160);
        Check.type(y, "k");
        dueThrown(y, 160, 0, Check.STATE);
        Check.due("2 out, 1 in", Check.edit(y, 0, 2) >= 0, true);
        Check.due("2 out, 1 in: length()", y.length(), 159);
        dueThrown(y, 159, 0, 0);
        KeptItems z = Check.of(FULL.substring(0, 120));
        Check.due("40 more", Check.edit(z, 0, 0, FORTY), 40);
        Check.due("40 more: length()", z.length(), 160);
        dueThrown(z, 160, 0, 0);
    }

    private static KeptItems withARow(String text, String row) {
        KeptItems x = Check.of(text);
        Check.edit(x, text.length(), 0, " ");
        Check.type(x, row);
        return x;
    }

    private static void editChangesNothingWhenItThrows() {
        Check.sentence("Promise 4: it changes nothing then");
        String few = "a=1;{b=2;}c";
        int[][] stretches = {{-1, 0}, {13, 0}, {0, 13}, {12, 1}, {0, -1}, {5, Integer.MAX_VALUE}};
        for (int[] s : stretches) {
            KeptItems x = withARow(few, "=3;d=4;");
            dueThrown(x, s[0], s[1], Check.INDEX);
            Check.dueAsTwin("a wrong stretch", x, withARow(few, "=3;d=4;"), 4);
            Check.due("the row is still there", Check.edit(x, 11, 0), 7);
            Check.dueText("the row is still there", x, few + "=3;d=4; ");
            Check.dueNumbers("no number is lost", x, 0, 1, 2, 3, 4);
            Check.due("the edit before is the one that counted: kept()", x.kept(), 3);
        }
        String many = "a=1;{b=2;}#" + "x".repeat(121) + "\nc=\"" + "y".repeat(20) + "\";";
        KeptItems x = withARow(many, "zz");
        Check.due("159 and 2", Check.edit(x, 0, 0), Check.STATE);
        Check.due("159 and 2 again", Check.edit(x, 159, 0), Check.STATE);
        Check.dueAsTwin("a text too long", x, withARow(many, "zz"), 4);
        Check.due("the row is still there", x.wipe(), 2);
        KeptItems y = withARow(many, "zz");
        Check.edit(y, 0, 0);
        Check.due("1 out, 2 in", Check.edit(y, 0, 1), 1);
        Check.due("the row is put in", y.at(0) == 'z' && y.at(1) == 'z' && y.at(2) == '=', true);
        Check.dueNumbers("no number is lost", y, 4, 1, 2, 3);
    }

    private static void wrongStretchAndLongText() {
        // Both hold here. A text is too long only by a stretch that there is, so the stretch comes first.
        Check.sentence("Promise 4: IndexOutOfBoundsException if there is no such stretch .., IllegalStateException if ..");
        KeptItems x = Check.of(FULL);
        Check.type(x, "k");
        dueThrown(x, -1, 0, Check.INDEX);
        dueThrown(x, 161, 0, Check.INDEX);
        dueThrown(x, 160, 1, Check.INDEX);
        dueThrown(x, 0, -1, Check.INDEX);
        dueThrown(x, 160, 0, Check.STATE);
    }

    private static void lengthCounts() {
        Check.sentence("Promise 5: The number of characters of the text.");
        for (int size : new int[] {0, 1, 2, 39, 40, 41, 159, 160}) {
            KeptItems x = Check.of(FULL.substring(0, size));
            Check.due("length()", x.length(), size);
            x.type('k');
            Check.due("length() with a row", x.length(), size);
            Check.edit(x, size + 1, 0);
            Check.due("length() behind a refused edit", x.length(), size);
            x.wipe();
            Check.due("length() behind wipe", x.length(), size);
        }
        Check.due("length() of blanks", Check.of(" \n #\n").length(), 5);
        KeptItems y = Check.of("abc");
        Check.edit(y, 1, 2);
        Check.due("length() of a shorter text", y.length(), 1);
        Check.edit(y, 0, 1);
        Check.due("length() of an empty one", y.length(), 0);
    }

    private static void atAnswers() {
        Check.sentence("Promise 6: Character i of the text");
        Check.dueText("one", Check.of("~"), "~");
        Check.dueText("blanks and comments too", Check.of(" #\n\""), " #\n\"");
        Check.dueText("a full text", Check.of(FULL), FULL);
    }

    private static void atAnswersZero() {
        Check.sentence("Promise 6: 0 if there is none.");
        for (int size : new int[] {0, 1, 159, 160}) {
            KeptItems x = Check.of(FULL.substring(0, size));
            Check.due(size + ": at(-1)", x.at(-1), 0);
            Check.due(size + ": at(size)", x.at(size), 0);
            Check.due(size + ": at(size + 1)", x.at(size + 1), 0);
            for (int i : FAR) {
                Check.due(size + ": at(" + i + ")", x.at(i), 0);
            }
            x.type('k');
            Check.due(size + " with a row: at(size)", x.at(size), 0);
        }
        KeptItems y = Check.of("abcd");
        Check.edit(y, 2, 2);
        Check.due("what was there: at(2)", y.at(2), 0);
        Check.due("what was there: at(3)", y.at(3), 0);
        Check.edit(y, 0, 2);
        Check.due("what was there: at(0)", y.at(0), 0);
        Check.due("what was there: at(2)", y.at(2), 0);
    }

    private static void objectsAreApart() {
        Check.sentence("Promise 1: An empty text, an empty row; no item had a number. (a second object)");
        KeptItems x = Check.of("a=1;");
        KeptItems y = Check.of("bb=2;cc=3;");
        Check.type(x, "zz");
        Check.due("wipe() of the other", y.wipe(), 0);
        Check.dueText("one", x, "a=1;");
        Check.dueText("the other", y, "bb=2;cc=3;");
        Check.dueNumbers("one", x, 0);
        Check.dueNumbers("the other", y, 0, 1);
    }
}
