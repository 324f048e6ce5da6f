/** Promises 11, 12 and 13: kept, number, which. */
public final class NumbersTest {
    public static void main(String[] args) {
        numbersAreGivenInOrder();
        itemsMove();
        itemsChange();
        itemsInsideBlocks();
        itemsThatLeaveTheTree();
        itemsThatComeBack();
        refusedEdits();
        wrongNumbers();
        Check.finish("NumbersTest");
    }

    private static void numbersAreGivenInOrder() {
        KeptItems x = Check.of("a=1;{b=2;{}}c=3;");
        Check.dueNumbers("first", x, 0, 1, 2, 3, 4);
        Check.due("first: kept()", x.kept(), 0);
        Check.edit(x, 0, 0, "{z();}");
        Check.dueNumbers("before them", x, 5, 6, 0, 1, 2, 3, 4);
        Check.due("before them: kept()", x.kept(), 5);
    }

    private static void itemsMove() {
        KeptItems x = Check.of("a=1;b=2;c=3;");
        Check.edit(x, 4, 4, "");
        Check.dueNumbers("one out", x, 0, 2);
        Check.due("one out: kept()", x.kept(), 2);
        Check.due("one out: which(1)", x.which(1), KeptItems.NONE);
        Check.edit(x, 4, 0, "b=2;");
        Check.dueNumbers("as it was, but new", x, 0, 3, 2);
        Check.edit(x, 0, 0, "\n\n # x\n ");
        Check.dueNumbers("blanks", x, 0, 3, 2);
        Check.due("blanks: kept()", x.kept(), 3);
        Check.edit(x, 9, 1, " # x\n= ");
        Check.due("a sign anew: kept()", x.kept(), 2);
        Check.dueNumbers("a sign anew", x, 4, 3, 2);
        KeptItems y = Check.of("a=1;b=2;");
        Check.edit(y, 0, 4, "a=1;");
        Check.dueNumbers("the same letters, but new", y, 2, 1);
    }

    private static void itemsChange() {
        KeptItems x = Check.of("a=1;b=2;");
        Check.edit(x, 3, 0, "+1");
        Check.dueNumbers("a longer", x, 2, 1);
        Check.edit(x, 3, 2, "");
        Check.dueNumbers("all old tokens stay, but two", x, 3, 1);
        Check.edit(x, 2, 0, "-");
        Check.dueNumbers("all stay, one more", x, 4, 1);
        Check.edit(x, 1, 1, "\n=");
        Check.dueNumbers("one anew", x, 5, 1);
        Check.edit(x, 1, 0, "#\n");
        Check.dueNumbers("a comment in it", x, 5, 1);
        Check.due("a comment in it: kept()", x.kept(), 2);
        KeptItems y = Check.of("aa=1;");
        Check.edit(y, 1, 0, "");
        Check.dueNumbers("nothing in, nothing out, but inside a token", y, 1);
        Check.due("nothing in, nothing out: kept()", y.kept(), 0);
        Check.edit(y, 2, 0, "");
        Check.dueNumbers("nothing in, nothing out between tokens", y, 1);
        Check.due("between tokens: kept()", y.kept(), 1);
        // The value is another, but the item stays.
        KeptItems z = Check.of("a=1;b=a;");
        Check.edit(z, 2, 1, "7");
        Check.dueNumbers("b stays", z, 2, 1);
        Check.due("b stays: value(1)", Check.value(z, 1), 7);
    }

    private static void itemsInsideBlocks() {
        KeptItems x = Check.of("{a=1;{b=2;}c=3;}d=4;");
        Check.edit(x, 6, 4, "b=5;");
        Check.dueNumbers("an inner item anew", x, 6, 1, 7, 8, 4, 5);
        Check.due("an inner item anew: kept()", x.kept(), 3);
        Check.edit(x, 5, 6, "");
        Check.dueNumbers("an inner block out", x, 9, 1, 4, 5);
        Check.edit(x, 0, 1, "");
        Check.due("the { out: fault()", x.fault(), 8);
        Check.dueNumbers("the { out", x, 1, 4);
        Check.due("the { out: kept()", x.kept(), 2);
        // A block that has lost nothing, but got an item, is another.
        KeptItems y = Check.of("{}");
        Check.edit(y, 1, 0, "{}");
        Check.dueNumbers("a block in a block", y, 1, 2);
        KeptItems z = Check.of("{{}}");
        Check.edit(z, 1, 2, "");
        Check.dueNumbers("a block out of a block", z, 2);
        Check.due("a block out of a block: kept()", z.kept(), 0);
    }

    private static void itemsThatLeaveTheTree() {
        KeptItems x = Check.of("a=1;b=2;c=3;");
        Check.edit(x, 4, 0, "{");
        Check.dueNumbers("in a {} that isn't whole", x, 0);
        Check.edit(x, 4, 1, "");
        Check.dueNumbers("out of it again", x, 0, 3, 4);
        Check.due("out of it again: kept()", x.kept(), 1);
        Check.edit(x, 0, 0, "$");
        Check.dueNumbers("behind the fault", x);
        Check.due("behind the fault: kept()", x.kept(), 0);
        Check.edit(x, 0, 1, "");
        Check.dueNumbers("no fault", x, 5, 6, 7);
        // It stays while it comes into a {}.
        KeptItems y = Check.of("{}a=1;}");
        Check.dueNumbers("before a }", y, 0, 1);
        Check.edit(y, 1, 1, "");
        Check.dueNumbers("in the {}", y, 2, 1);
        Check.due("in the {}: kept()", y.kept(), 1);
        // And while it comes out of one.
        Check.edit(y, 1, 0, "}");
        Check.dueNumbers("behind the {}", y, 3, 1);
        // Too deep now, and back.
        KeptItems z = Check.of("{".repeat(11) + "{}" + "}".repeat(11) + "a=1;");
        Check.edit(z, 0, 0, "{");
        Check.dueNumbers("too deep", z);
        Check.edit(z, 0, 1, "");
        Check.due("not too deep: kept()", z.kept(), 0);
        Check.due("not too deep: number(12)", z.number(12), 25);
    }

    private static void itemsThatComeBack() {
        KeptItems x = Check.of("s=\"a\";t=\"b\";u=1;");
        Check.edit(x, 2, 1, "");
        Check.dueNumbers("a quote out", x);
        Check.edit(x, 2, 0, "\"");
        Check.dueNumbers("a quote in", x, 3, 4, 5);
        Check.edit(x, 12, 0, "\"");
        Check.dueNumbers("a quote behind two", x, 3, 4);
        Check.due("a quote behind two: kept()", x.kept(), 2);
        Check.due("a quote behind two: which(5)", x.which(5), KeptItems.NONE);
        Check.edit(x, 0, x.length(), "");
        Check.dueNumbers("all out", x);
        Check.due("all out: kept()", x.kept(), 0);
        Check.edit(x, 0, 0, "{}");
        Check.dueNumbers("none had it", x, 6);
    }

    private static void refusedEdits() {
        KeptItems x = Check.of("a=1;b=2;");
        Check.edit(x, 4, 0, " ");
        Check.due("before: kept()", x.kept(), 2);
        Check.type(x, "c=3;");
        Check.due("refused", Check.edit(x, 10, 0), Check.INDEX);
        Check.due("refused: kept()", x.kept(), 2);
        Check.due("type: kept()", x.kept(), 2);
        x.wipe();
        Check.due("wipe: kept()", x.kept(), 2);
        Check.dueNumbers("refused", x, 0, 1);
        Check.edit(x, 0, 0, "c=3;");
        Check.dueNumbers("no number was lost", x, 2, 0, 1);
    }

    private static void wrongNumbers() {
        KeptItems x = Check.of("a=1;b=2;");
        Check.edit(x, 0, 4, "");
        for (int number : new int[] {-1, 0, 2, 160, Integer.MIN_VALUE, Integer.MAX_VALUE}) {
            Check.due("which(" + number + ")", x.which(number), KeptItems.NONE);
        }
        Check.due("which(1)", x.which(1), 0);
    }
}
