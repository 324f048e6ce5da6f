/** Which items stay and what numbers they have, sentence by sentence: "Terms" and promises 11, 12 and 13. */
public final class NumbersTest {
    private static final int[] FAR = {-160, 160, 161, Integer.MIN_VALUE, Integer.MAX_VALUE};

    public static void main(String[] args) {
        allTokensStay();
        justTheSameTokens();
        oldItemsOfTheTree();
        newItemsOfTheTree();
        numbersOfThoseThatStay();
        nextNumbers();
        numbersThatNoneEverHad();
        orderOfNumbers();
        keptCounts();
        keptWithoutAnEdit();
        keptInTheLatestEdit();
        numberAnswers();
        numberAnswersNone();
        whichAnswers();
        whichAnswersNone();
        Check.finish("NumbersTest");
    }

    /** A text, an edit, and the numbers that are due then. */
    private static void dueNumbers(String text, int at, int gone, String row, int... numbers) {
        KeptItems x = Check.of(text);
        Check.edit(x, at, gone, row);
        Check.dueNumbers(text + ": edit(" + at + ", " + gone + ") with " + row, x, numbers);
    }

    private static void allTokensStay() {
        Check.sentence("An old item of the tree STAYS if all its tokens stay");
        // The first token, one in the middle, and the last; by the same characters, or none.
        dueNumbers("a=1;b=2;", 0, 1, "a", 2, 1);
        dueNumbers("a=1;b=2;", 1, 1, "=", 2, 1);
        dueNumbers("a=1;b=2;", 2, 1, "1", 2, 1);
        dueNumbers("a=1;b=2;", 3, 1, ";", 2, 1);
        dueNumbers("a=1;b=2;", 4, 1, "b", 0, 2);
        dueNumbers("a=1;b=2;", 0, 4, "a=1;", 2, 1);
        dueNumbers("a=1;b=2;", 4, 4, "b=2;", 0, 2);
        dueNumbers("{}{}", 1, 2, "}{", 2, 3);
        dueNumbers("aa=1;", 0, 0, "", 0);
        dueNumbers("aa=1;", 1, 0, "", 1);
        dueNumbers("aa=1;", 2, 0, "", 0);
        dueNumbers("aa=1;", 5, 0, "", 0);
        dueNumbers("a=1;", 0, 0, "b", 1);
        dueNumbers("a=1;", 0, 0, "b=2;", 1, 0);
        dueNumbers("a=1;", 4, 0, "b=2;", 0, 1);
        dueNumbers("a=1;", 4, 0, "#", 0);
        // What is round and between the tokens is no part of the item.
        dueNumbers("a=1;", 1, 0, " ", 0);
        dueNumbers("a=1;", 3, 0, "#;\n", 0);
        dueNumbers(" a # x\n = 1 ;", 0, 8, "a", 1);
        dueNumbers("a # x\n = 1 ;", 1, 6, "", 0);
    }

    private static void justTheSameTokens() {
        Check.sentence("and a new item of the tree has just the same tokens");
        dueNumbers("a=1;", 2, 0, "-", 1);
        dueNumbers("a=1;", 3, 0, "+1", 1);
        dueNumbers("a=-1;", 2, 1, "", 1);
        dueNumbers("f();", 2, 0, "1", 1);
        dueNumbers("f(1);", 2, 1, "", 1);
        dueNumbers("a=f(1);", 0, 2, "", 1);
        dueNumbers("f(1);", 0, 0, "a=", 1);
        dueNumbers("{}", 1, 0, "{}", 1, 2);
        dueNumbers("{{}}", 1, 2, "", 2);
        dueNumbers("{a=1;}", 1, 0, "b=2;", 2, 3, 1);
        dueNumbers("{a=1;}", 5, 0, "b=2;", 2, 1, 3);
        dueNumbers("{a=1;b=2;}", 1, 4, "", 3, 2);
        dueNumbers("{a=1;b=2;}", 5, 4, "", 3, 1);
        dueNumbers("{a=1;}", 1, 0, " #\n", 0, 1);
        // Two items that become one, and one that becomes two.
        dueNumbers("{}{}", 1, 2, "", 2);
        dueNumbers("{}", 1, 0, "}{", 1, 2);
        dueNumbers("{a=1;{b=2;}c=3;}d=4;", 6, 4, "b=5;", 6, 1, 7, 8, 4, 5);
        dueNumbers("{a=1;{b=2;}c=3;}d=4;", 5, 6, "", 6, 1, 4, 5);
        dueNumbers("{a=1;{b=2;}c=3;}d=4;", 16, 4, "", 0, 1, 2, 3, 4);
    }

    private static void oldItemsOfTheTree() {
        Check.sentence("An old item of the tree STAYS (not: one that was in no tree)");
        KeptItems x = Check.of("a=1;b=2;c=3;");
        Check.edit(x, 4, 0, "{");
        Check.dueNumbers("in a {} that isn't whole", x, 0);
        Check.edit(x, 4, 1, "");
        Check.dueNumbers("out of it again", x, 0, 3, 4);
        Check.due("out of it again: kept()", x.kept(), 1);
        Check.edit(x, 0, 0, "$");
        Check.dueNumbers("behind the fault", x);
        Check.edit(x, 0, 1, "");
        Check.dueNumbers("no fault", x, 5, 6, 7);
        Check.due("no fault: kept()", x.kept(), 0);
        // Nor one that was in the tree of an edit before the last, and whose tokens are there again.
        KeptItems z = Check.of("{}f(1);");
        Check.edit(z, 0, 0);
        Check.edit(z, 0, 2, "a=");
        Check.dueNumbers("f(1) as a part", z, 2);
        Check.edit(z, 0, 2);
        Check.dueNumbers("f(1) as an item again", z, 3);
        Check.due("f(1) as an item again: kept()", z.kept(), 0);
        KeptItems y = Check.of("{".repeat(11) + "{}" + "}".repeat(11) + "a=1;");
        Check.edit(y, 0, 0, "{");
        Check.dueNumbers("too deep", y);
        Check.edit(y, 0, 1, "");
        Check.due("not too deep: kept()", y.kept(), 0);
        Check.due("not too deep: number(12)", y.number(12), 25);
    }

    private static void newItemsOfTheTree() {
        Check.sentence("a new item of the tree has just the same tokens (in whichever {} it is)");
        KeptItems x = Check.of("{}a=1;}");
        Check.dueNumbers("before a }", x, 0, 1);
        Check.edit(x, 1, 1, "");
        Check.dueNumbers("in the {}", x, 2, 1);
        Check.due("in the {}: kept()", x.kept(), 1);
        Check.edit(x, 1, 0, "}");
        Check.dueNumbers("behind the {}", x, 3, 1);
        dueNumbers("{a=1;{b=2;}}c=3;", 0, 1, "", 1, 2, 3);
        dueNumbers("s=\"a\";t=\"b\";u=1;", 12, 0, "\"", 0, 1);
        dueNumbers("s=\"a\";t=\"b\";u=1;", 2, 1, "");
        dueNumbers("a=1;b=2;", 0, 0, "#");
        dueNumbers("a=1;\nb=2;", 0, 0, "#", 1);
    }

    private static void numbersOfThoseThatStay() {
        Check.sentence("New items have the NUMBERS of the old ones that stay so");
        KeptItems x = Check.of("a=1;b=2;c=3;");
        Check.edit(x, 4, 4, "");
        Check.dueNumbers("one out", x, 0, 2);
        Check.edit(x, 0, 0, "\n\n # x\n ");
        Check.dueNumbers("moved on", x, 0, 2);
        Check.edit(x, 0, 8, "");
        Check.dueNumbers("moved back", x, 0, 2);
        Check.edit(x, 0, 4, "");
        Check.dueNumbers("the first out", x, 2);
        Check.edit(x, 4, 0, "d=4;");
        Check.dueNumbers("one more behind", x, 2, 3);
        // The value is another, but the item stays.
        KeptItems y = Check.of("a=1;b=a;");
        Check.edit(y, 2, 1, "7");
        Check.dueNumbers("b stays", y, 2, 1);
        Check.due("b stays: value(1)", Check.value(y, 1), 7);
    }

    private static void nextNumbers() {
        Check.sentence("the others get the next ones of 0, 1, ..");
        KeptItems x = new KeptItems();
        Check.edit(x, 0, 0, "a=1;");
        Check.dueNumbers("the first", x, 0);
        Check.edit(x, 4, 0, "b=2;{c=3;}");
        Check.dueNumbers("three more", x, 0, 1, 2, 3);
        Check.edit(x, 4, 0, "}");
        Check.dueNumbers("none new", x, 0);
        Check.edit(x, 0, 0, "{");
        Check.dueNumbers("and four", x, 4, 0, 5, 6, 7);
        KeptItems y = Check.of("{}".repeat(80));
        Check.due("80: number(79)", y.number(79), 79);
        Check.edit(y, 0, 160, "{}");
        Check.dueNumbers("behind 80", y, 80);
    }

    private static void numbersThatNoneEverHad() {
        Check.sentence("that none ever had");
        KeptItems x = Check.of("a=1;b=2;");
        Check.edit(x, 4, 4, "");
        Check.dueNumbers("the last out", x, 0);
        Check.edit(x, 4, 0, "b=2;");
        Check.dueNumbers("as it was, but new", x, 0, 2);
        Check.edit(x, 0, 8, "");
        Check.dueNumbers("all out", x);
        Check.edit(x, 0, 0, "{}");
        Check.dueNumbers("none had it", x, 3);
        Check.edit(x, 0, 1, "");
        Check.edit(x, 0, 0, "{");
        Check.dueNumbers("not the one of an edit before the last", x, 4);
        Check.type(x, "a=1;");
        Check.edit(x, 3, 0);
        Check.edit(x, 2, 0);
        Check.dueNumbers("a refused edit gave none", x, 4, 5);
    }

    private static void orderOfNumbers() {
        Check.sentence("in the order in which they begin");
        Check.dueNumbers("first", Check.of("a=1;{b=2;{}}c=3;"), 0, 1, 2, 3, 4);
        dueNumbers("a=1;{b=2;{}}c=3;", 0, 0, "{z();}", 5, 6, 0, 1, 2, 3, 4);
        dueNumbers("a=1;b=2;", 4, 0, "{{}c=3;}", 0, 2, 3, 4, 1);
        dueNumbers("{a=1;}{b=2;}", 5, 0, "c=3;", 4, 1, 5, 2, 3);
        dueNumbers("a=1;b=2;c=3;", 3, 2, ";d=4;x", 3, 4, 5, 2);
    }

    private static void dueKept(String text, int at, int gone, String row, int kept) {
        KeptItems x = Check.of(text);
        Check.edit(x, at, gone, row);
        Check.due(text + ": edit(" + at + ", " + gone + ") with " + row + ": kept()", x.kept(), kept);
    }

    private static void keptCounts() {
        Check.sentence("Promise 11: How many items of the tree stayed in the latest edit");
        dueKept("", 0, 0, "", 0);
        dueKept("", 0, 0, "a=1;", 0);
        dueKept("a=1;", 0, 0, "", 1);
        dueKept("a=1;", 0, 4, "", 0);
        dueKept("a=1;", 0, 4, "a=1;", 0);
        dueKept("a=1;b=2;", 0, 4, "", 1);
        dueKept("a=1;b=2;", 0, 1, "c", 1);
        dueKept("{a=1;b=2;}", 1, 1, "c", 1);
        dueKept("{a=1;b=2;}", 0, 0, "{}", 3);
        dueKept("{}".repeat(79), 158, 0, "{}", 79);
        dueKept("{}".repeat(80), 160, 0, "", 80);
        dueKept("{}".repeat(80), 1, 0, "", 80);
        dueKept("{}".repeat(80), 0, 1, "", 0);
        dueKept("{}".repeat(80), 0, 2, "", 79);
    }

    private static void keptWithoutAnEdit() {
        Check.sentence("Promise 11: 0 if there was none.");
        KeptItems x = new KeptItems();
        Check.due("new: kept()", x.kept(), 0);
        Check.type(x, "a=1;");
        Check.due("typed: kept()", x.kept(), 0);
        Check.edit(x, 1, 0);
        Check.due("refused: kept()", x.kept(), 0);
        Check.edit(x, 0, 0);
        Check.due("the first edit: kept()", x.kept(), 0);
        Check.edit(x, 0, 0);
        Check.due("the second edit: kept()", x.kept(), 1);
    }

    private static void keptInTheLatestEdit() {
        Check.sentence("Promise 11: stayed in the latest edit (not: in those before it, or in a refused one)");
        KeptItems x = Check.of("a=1;b=2;");
        Check.edit(x, 4, 0, " ");
        Check.due("the latest: kept()", x.kept(), 2);
        Check.type(x, "c=3;");
        Check.due("type: kept()", x.kept(), 2);
        Check.due("refused", Check.edit(x, 10, 0), Check.INDEX);
        Check.due("refused: kept()", x.kept(), 2);
        x.wipe();
        Check.due("wipe: kept()", x.kept(), 2);
        Check.edit(x, 0, 5);
        Check.due("one less: kept()", x.kept(), 1);
        Check.edit(x, 0, 4);
        Check.due("none: kept()", x.kept(), 0);
        KeptItems y = Check.of("{}".repeat(80));
        Check.edit(y, 0, 0);
        Check.type(y, "{");
        Check.due("too long", Check.edit(y, 0, 0), Check.STATE);
        Check.due("too long: kept()", y.kept(), 80);
    }

    private static void numberAnswers() {
        Check.sentence("Promise 12: The number of item k of the tree, counted from 0 in the order in which they begin");
        KeptItems x = Check.of("a=1;{b=2;}");
        Check.edit(x, 4, 0, "c=3;");
        Check.due("number(0)", x.number(0), 0);
        Check.due("number(1)", x.number(1), 3);
        Check.due("number(2)", x.number(2), 1);
        Check.due("number(3)", x.number(3), 2);
        KeptItems y = Check.of("{}".repeat(80));
        for (int k = 0; k < 80; k++) {
            Check.due("80: number(" + k + ")", y.number(k), k);
        }
    }

    private static void numberAnswersNone() {
        Check.sentence("Promise 12: NONE if there is none.");
        for (int count : new int[] {0, 1, 2, 79, 80}) {
            KeptItems x = Check.of("{}".repeat(count));
            Check.due(count + ": number(-1)", x.number(-1), KeptItems.NONE);
            Check.due(count + ": number(count - 1)", x.number(count - 1), count - 1);
            Check.due(count + ": number(count)", x.number(count), KeptItems.NONE);
            Check.due(count + ": number(count + 1)", x.number(count + 1), KeptItems.NONE);
            for (int k : FAR) {
                Check.due(count + ": number(" + k + ")", x.number(k), KeptItems.NONE);
            }
        }
        KeptItems y = Check.of("a=1;{b=2;");
        Check.due("begun, but not in the tree: number(1)", y.number(1), KeptItems.NONE);
        Check.due("begun, but not in the tree: number(2)", y.number(2), KeptItems.NONE);
        Check.edit(y, 0, 1);
        Check.due("in the tree once: number(0)", y.number(0), KeptItems.NONE);
    }

    private static void whichAnswers() {
        Check.sentence("Promise 13: Which item of the tree has a number");
        KeptItems x = Check.of("a=1;{b=2;}");
        Check.edit(x, 4, 0, "c=3;");
        Check.due("which(0)", x.which(0), 0);
        Check.due("which(1)", x.which(1), 2);
        Check.due("which(2)", x.which(2), 3);
        Check.due("which(3)", x.which(3), 1);
        KeptItems y = Check.of("{}".repeat(80));
        for (int number = 0; number < 80; number++) {
            Check.due("80: which(" + number + ")", y.which(number), number);
        }
        Check.edit(y, 0, 2);
        Check.due("79: which(1)", y.which(1), 0);
        Check.due("79: which(79)", y.which(79), 78);
    }

    private static void whichAnswersNone() {
        Check.sentence("Promise 13: NONE if none.");
        for (int count : new int[] {0, 1, 2, 79, 80}) {
            KeptItems x = Check.of("{}".repeat(count));
            Check.due(count + ": which(-1)", x.which(-1), KeptItems.NONE);
            Check.due(count + ": which(count - 1)", x.which(count - 1), count - 1);
            Check.due(count + ": which(count)", x.which(count), KeptItems.NONE);
            Check.due(count + ": which(count + 1)", x.which(count + 1), KeptItems.NONE);
            for (int number : FAR) {
                Check.due(count + ": which(" + number + ")", x.which(number), KeptItems.NONE);
            }
        }
        KeptItems y = Check.of("a=1;b=2;");
        Check.edit(y, 0, 4);
        Check.due("an item had it once: which(0)", y.which(0), KeptItems.NONE);
        Check.due("an item has it: which(1)", y.which(1), 0);
        Check.due("none ever had it: which(2)", y.which(2), KeptItems.NONE);
        Check.edit(y, 0, 4);
        Check.due("an item had it in the edit before: which(1)", y.which(1), KeptItems.NONE);
    }
}
