/** Promises 1 to 6: a new object, type, wipe, edit, length, at. */
public final class TextTest {
    private static final String FORTY = "a=1;b=2;c=3;d=4;e=5;f=6;g=7;h=8;i=9;j=0;";

    public static void main(String[] args) {
        newObject();
        typeTakesWhatFits();
        typeRefusesAFullRow();
        wipeEmptiesTheRow();
        editPutsTheRowIn();
        editRefusesAWrongStretch();
        editRefusesALongText();
        objectsAreApart();
        Check.finish("TextTest");
    }

    private static void newObject() {
        KeptItems x = new KeptItems();
        Check.due("new: length()", x.length(), 0);
        Check.due("new: at(0)", x.at(0), 0);
        Check.due("new: tokens()", x.tokens(), 0);
        Check.due("new: token(0)", Check.token(x, 0), Check.INDEX);
        Check.due("new: fault()", x.fault(), KeptItems.NONE);
        Check.due("new: items()", x.items(), 0);
        Check.due("new: kept()", x.kept(), 0);
        Check.due("new: number(0)", x.number(0), KeptItems.NONE);
        Check.due("new: which(0)", x.which(0), KeptItems.NONE);
        Check.due("new: begin(0)", Check.begin(x, 0), Check.INDEX);
        Check.due("new: end(0)", Check.end(x, 0), Check.INDEX);
        Check.due("new: level(0)", x.level(0), KeptItems.NONE);
        Check.due("new: value(0)", Check.value(x, 0), Check.INDEX);
        Check.due("new: wipe()", x.wipe(), 0);
        Check.due("new: edit(0, 0)", Check.edit(x, 0, 0), 0);
        Check.edit(x, 0, 0, "a=1;");
        Check.due("new: the first number", x.number(0), 0);
    }

    private static void typeTakesWhatFits() {
        for (int c = 0; c < 400; c++) {
            dueFits(c);
        }
        dueFits(0xFFFF);
        dueFits(0x8000 + 'a');
        dueFits(0x100 + '\n');
    }

    private static void dueFits(int c) {
        KeptItems x = new KeptItems();
        boolean fits = c == 10 || c >= 32 && c <= 126;
        Check.due("type((char) " + c + ")", x.type((char) c), fits);
        Check.due("wipe() behind type((char) " + c + ")", x.wipe(), fits ? 1 : 0);
        Check.due("length() behind type((char) " + c + ")", x.length(), 0);
    }

    private static void typeRefusesAFullRow() {
        KeptItems x = new KeptItems();
        Check.type(x, FORTY);
        Check.due("type with 40", x.type('k'), false);
        Check.due("type with 40, once more", x.type('\n'), false);
        Check.edit(x, 0, 0);
        Check.dueText("40 put in", x, FORTY);
        Check.due("type behind an edit", x.type('k'), true);
        Check.due("wipe() behind that", x.wipe(), 1);
    }

    private static void wipeEmptiesTheRow() {
        KeptItems x = new KeptItems();
        Check.type(x, FORTY);
        Check.due("wipe() of 40", x.wipe(), 40);
        Check.due("wipe() of none", x.wipe(), 0);
        Check.type(x, "ab");
        Check.due("edit behind wipe", Check.edit(x, 0, 0), 1);
        Check.dueText("wiped", x, "ab");
        Check.due("wipe() behind edit", x.wipe(), 0);
        Check.type(x, "cd");
        x.wipe();
        Check.dueText("wipe leaves the text", x, "ab");
    }

    private static void editPutsTheRowIn() {
        KeptItems x = Check.of("abcdef");
        Check.edit(x, 2, 2, "XYZ");
        Check.dueText("in the middle", x, "abXYZef");
        Check.edit(x, 0, 1, "\n");
        Check.dueText("at the front", x, "\nbXYZef");
        Check.edit(x, 7, 0, "#~");
        Check.dueText("at the end", x, "\nbXYZef#~");
        Check.edit(x, 1, 5, "");
        Check.dueText("out only", x, "\nf#~");
        Check.edit(x, 0, 4, "");
        Check.dueText("all out", x, "");
        for (int i : new int[] {-1, 0, 1, 159, 160, Integer.MIN_VALUE, Integer.MAX_VALUE}) {
            Check.due("at(" + i + ") of an empty text", x.at(i), 0);
        }
        KeptItems y = Check.of("ab");
        Check.due("at(-1)", y.at(-1), 0);
        Check.due("at(1)", y.at(1), 'b');
        Check.due("at(2)", y.at(2), 0);
    }

    private static void editRefusesAWrongStretch() {
        KeptItems x = Check.of("a=1;b=2;");
        Check.edit(x, 8, 0, " ");
        Check.type(x, "c=3;");
        int[][] stretches = {
            {-1, 0}, {-1, 1}, {10, 0}, {0, 10}, {9, 1}, {5, 5}, {0, -1}, {9, -1}, {10, -1},
            {Integer.MAX_VALUE, 0}, {Integer.MIN_VALUE, 0}, {1, Integer.MAX_VALUE},
            {Integer.MAX_VALUE, Integer.MAX_VALUE}, {0, Integer.MIN_VALUE}, {5, Integer.MIN_VALUE},
        };
        for (int[] s : stretches) {
            Check.due("edit(" + s[0] + ", " + s[1] + ")", Check.edit(x, s[0], s[1]), Check.INDEX);
            Check.dueText("refused", x, "a=1;b=2; ");
        }
        Check.due("refused: kept()", x.kept(), 2);
        Check.dueNumbers("refused", x, 0, 1);
        Check.due("the row is still there", Check.edit(x, 9, 0), 4);
        Check.dueText("taken", x, "a=1;b=2; c=3;");
        Check.dueNumbers("taken", x, 0, 1, 2);
        Check.due("edit(13, 0)", Check.edit(x, 13, 0), 0);
        Check.due("edit(0, 13)", Check.edit(x, 0, 13), 0);
    }

    private static void editRefusesALongText() {
        KeptItems x = Check.of(FORTY + FORTY + FORTY + FORTY);
        Check.due("160: length()", x.length(), 160);
        Check.due("160: at(159)", x.at(159), ';');
        Check.due("160: at(160)", x.at(160), 0);
        Check.due("160: items()", x.items(), 40);
        Check.type(x, "xy");
        Check.due("162", Check.edit(x, 0, 0), Check.STATE);
        Check.due("161", Check.edit(x, 159, 1), Check.STATE);
        Check.due("162, but no such stretch", Check.edit(x, 161, 0), Check.INDEX);
        Check.due("161, but no such stretch", Check.edit(x, 160, 1), Check.INDEX);
        Check.dueText("refused", x, FORTY + FORTY + FORTY + FORTY);
        Check.due("refused: kept()", x.kept(), 30);
        Check.due("refused: number(39)", x.number(39), 39);
        Check.due("160 again", Check.edit(x, 0, 2), 1);
        Check.due("160 again: length()", x.length(), 160);
        Check.due("160 again: at(1)", x.at(1), 'y');
        Check.due("160 again: fault()", x.fault(), 2);
        Check.due("nothing in, nothing out", Check.edit(x, 160, 0), 0);
        Check.due("all out", Check.edit(x, 0, 160), 0);
        Check.due("all out: length()", x.length(), 0);
    }

    private static void objectsAreApart() {
        KeptItems x = Check.of("a=1;");
        KeptItems y = Check.of("bb=2;cc=3;");
        Check.type(x, "zz");
        Check.due("wipe() of the other", y.wipe(), 0);
        Check.dueText("one", x, "a=1;");
        Check.dueText("the other", y, "bb=2;cc=3;");
        Check.dueNumbers("one", x, 0);
        Check.dueNumbers("the other", y, 0, 1);
    }
}
