/** Items, reading and the tree, sentence by sentence: "Terms" and promises 9, 10, 14, 15 and 16. */
public final class ReadingTest {
    private static final int[] FAR = {-160, 160, 161, Integer.MIN_VALUE, Integer.MAX_VALUE};

    public static void main(String[] args) {
        itemsThatGiveAName();
        itemsThatCall();
        itemsThatAreBlocks();
        sums();
        terms();
        factors();
        lists();
        anyNumberOfItems();
        depthOfBraces();
        depthOfBrackets();
        depthOfMinus();
        depthOfAllTogether();
        depthOfWhatIsClosed();
        depthOfWhatOpensNothing();
        readingEndsAtAWrongToken();
        readingEndsAtTooDeepAToken();
        readingEndsBehindTheLast();
        wholeItemsAreInTheTree();
        itemsInBrokenBlocksAreNot();
        orderOfBeginning();
        goodReading();
        faultIsAPlace();
        faultIsTheLength();
        faultAnswers();
        itemsAreCounted();
        beginAnswers();
        endAnswers();
        beginThrows();
        endThrows();
        levelAnswers();
        levelAnswersNone();
        Check.finish("ReadingTest");
    }

    private static void dueReading(String text, int fault, int items) {
        KeptItems x = Check.of(text);
        Check.due(text + ": fault()", x.fault(), fault);
        Check.due(text + ": items()", x.items(), items);
    }

    private static void dueGood(String text, int items) {
        dueReading(text, KeptItems.NONE, items);
    }

    private static void itemsThatGiveAName() {
        Check.sentence("item: NAME = sum ;");
        dueGood("a=1;", 1);
        dueGood(" a\n= 1 # x\n ; ", 1);
        dueReading("=1;", 0, 0);
        dueReading("1=1;", 0, 0);
        dueReading("\"a\"=1;", 0, 0);
        dueReading("a 1;", 2, 0);
        dueReading("a=;", 2, 0);
        dueReading("a==1;", 2, 0);
        dueReading("a=1", 3, 0);
        dueReading("a=1 2;", 4, 0);
        dueReading("a=1,2;", 3, 0);
        dueReading("a=b=c;", 3, 0);
        dueReading("a b=1;", 2, 0);
        dueReading("a=1;;", 4, 1);
    }

    private static void itemsThatCall() {
        Check.sentence("or NAME ( list ) ;");
        dueGood("f();", 1);
        dueGood("f(1);", 1);
        dueReading("();", 0, 0);
        dueReading("1();", 0, 0);
        dueReading("f;", 1, 0);
        dueReading("f);", 1, 0);
        dueReading("f(;", 2, 0);
        dueReading("f()", 3, 0);
        dueReading("f()();", 3, 0);
        dueReading("f()+1;", 3, 0);
        dueReading("f()=1;", 3, 0);
        dueReading("f()g();", 3, 0);
        dueReading("f(a=1);", 3, 0);
        dueReading("f(1;", 3, 0);
    }

    private static void itemsThatAreBlocks() {
        Check.sentence("or { items } with any number of items");
        dueGood("{}", 1);
        dueGood("{a=1;}", 2);
        dueGood("{a=1;f();}", 3);
        dueGood("{{}}", 2);
        dueGood("{{}{a=1;}{}}", 5);
        dueGood("{" + "{}".repeat(79) + "}", 80);
        dueReading("{};", 2, 1);
        dueReading("{;}", 1, 0);
        dueReading("{a=1}", 4, 0);
        dueReading("{1}", 1, 0);
        dueReading("{,}", 1, 0);
        dueReading("{}}", 2, 1);
        dueReading("}", 0, 0);
        dueReading("a={};", 2, 0);
        dueReading("f({});", 2, 0);
    }

    private static void sums() {
        Check.sentence("sum: term, and any number of times + term or - term");
        dueGood("a=1;", 1);
        dueGood("a=1+2;", 1);
        dueGood("a=1-2;", 1);
        dueGood("a=1+2-3+4;", 1);
        dueGood("a=1" + "+1".repeat(78) + ";", 1);
        dueGood("a=1" + "-1".repeat(78) + ";", 1);
        dueReading("a=+1;", 2, 0);
        dueReading("a=1+;", 4, 0);
        dueReading("a=1-;", 4, 0);
        dueReading("a=1++2;", 4, 0);
        dueReading("a=1-+2;", 4, 0);
        dueReading("a=1+2 3;", 6, 0);
    }

    private static void terms() {
        Check.sentence("term: factor, and any number of times * factor");
        dueGood("a=1*2;", 1);
        dueGood("a=1*2*3+4*5;", 1);
        dueGood("a=1" + "*1".repeat(78) + ";", 1);
        dueReading("a=*1;", 2, 0);
        dueReading("a=1*;", 4, 0);
        dueReading("a=1**2;", 4, 0);
        dueReading("a=1*+2;", 4, 0);
        dueReading("a=1+*2;", 4, 0);
    }

    private static void factors() {
        Check.sentence("factor: NUMBER, or STRING, or NAME, or NAME ( list ), or ( sum ), or - factor");
        dueGood("a=1;b=\"\";c=d;e=f();g=(h);i=-j;", 6);
        dueGood("a=--1;b=-(1)*-f(1)--\"\";c=((1+2));", 3);
        dueReading("a=();", 3, 0);
        dueReading("a=(1;", 4, 0);
        dueReading("a=(1,2);", 4, 0);
        dueReading("a=1);", 3, 0);
        dueReading("a=(=);", 3, 0);
        dueReading("a=-;", 3, 0);
        dueReading("a=-+1;", 3, 0);
        dueReading("a=(-);", 4, 0);
        dueReading("a=1(2);", 3, 0);
        dueReading("a=\"x\"(2);", 5, 0);
        dueReading("a=(b)(2);", 5, 0);
        dueReading("a=b(2)(3);", 6, 0);
        dueReading("a=1 b;", 4, 0);
        dueReading("a=$;", 2, 0);
        dueReading("a=\"x;", 2, 0);
    }

    private static void lists() {
        Check.sentence("list: nothing, or sum, and any number of times , sum");
        dueGood("f();a=f();", 2);
        dueGood("f(1);a=f(1);", 2);
        dueGood("f(1,2);a=f(1,2);", 2);
        dueGood("f(1+2,\"x\",-y,z(),(1*2));", 1);
        dueGood("f(1" + ",1".repeat(77) + ") ;", 1);
        dueReading("f(,);", 2, 0);
        dueReading("f(,1);", 2, 0);
        dueReading("f(1,);", 4, 0);
        dueReading("f(1,,2);", 4, 0);
        dueReading("f(1 2);", 4, 0);
        dueReading("f(1;2);", 3, 0);
        dueReading("f(());", 3, 0);
    }

    private static void anyNumberOfItems() {
        Check.sentence("The text has any number of items.");
        dueGood("", 0);
        dueGood(" \n# a=", 0);
        dueGood("a=1;", 1);
        dueGood("a=1;f();{}", 3);
        dueGood("a=1;".repeat(40), 40);
        dueGood("{}".repeat(79), 79);
        dueGood("{}".repeat(80), 80);
    }

    private static String round(String open, int n, String inside, String close) {
        return open.repeat(n) + inside + close.repeat(n);
    }

    private static void depthOfBraces() {
        Check.sentence("The DEPTH of a token is how many {, .. there are .. whose own part (up to }, ..) it belongs to");
        dueGood(round("{", 11, "", "}"), 11);
        dueGood(round("{", 12, "", "}"), 12);
        dueReading(round("{", 13, "", "}"), 12, 0);
        dueReading(round("{", 14, "", "}"), 12, 0);
        dueGood(round("{", 11, "{}{}", "}"), 13);
        dueReading(round("{", 11, "{}{}{{}}", "}"), 16, 0);
        dueGood(round("{a=1;", 12, "", "}"), 24);
        dueReading(round("{a=1;", 13, "", "}"), 60, 0);
    }

    private static void depthOfBrackets() {
        Check.sentence("The DEPTH of a token is how many .. ( .. there are .. whose own part (up to .. ), ..) it belongs to");
        dueGood("a=" + round("(", 11, "1", ")") + ";", 1);
        dueGood("a=" + round("(", 12, "1", ")") + ";", 1);
        dueReading("a=" + round("(", 13, "1", ")") + ";", 14, 0);
        dueGood(round("f(", 12, "", ")") + ";", 1);
        dueReading(round("f(", 13, "", ")") + ";", 25, 0);
        dueGood("a=" + round("f(", 12, "1", ")") + ";", 1);
        dueReading("a=" + round("f(", 13, "1", ")") + ";", 27, 0);
        dueGood(round("f(1,", 12, "1", ")") + ";", 1);
        dueReading(round("f(1,", 13, "1", ")") + ";", 49, 0);
        dueGood("a=" + round("f(1,2,", 12, "1", ")") + ";", 1);
        dueReading("a=" + round("f(1,2,", 13, "1", ")") + ";", 75, 0);
        dueGood("a=" + round("(1+2*", 12, "1", ")") + ";", 1);
        dueReading("a=" + round("(1+2*", 13, "1", ")") + ";", 62, 0);
    }

    private static void depthOfMinus() {
        Check.sentence("The DEPTH of a token is how many .. - (those before a factor) there are .. whose own part (.. the factor) it belongs to");
        dueGood("a=" + "-".repeat(11) + "1;", 1);
        dueGood("a=" + "-".repeat(12) + "1;", 1);
        dueReading("a=" + "-".repeat(13) + "1;", 14, 0);
        dueGood("a=1-" + "-".repeat(12) + "1;", 1);
        dueReading("a=1-" + "-".repeat(13) + "1;", 16, 0);
        dueGood("a=1*" + "-".repeat(12) + "1;", 1);
        dueReading("a=1*" + "-".repeat(13) + "1;", 16, 0);
        dueGood("f(1," + "-".repeat(11) + "1);", 1);
        dueReading("f(1," + "-".repeat(12) + "1);", 15, 0);
        // The factor is over before the sign behind it.
        dueGood("a=" + "-".repeat(12) + "1*(1)+" + "-".repeat(12) + "b-(1);", 1);
        dueGood("a=" + "-".repeat(12) + "1*-1;", 1);
        dueGood("a=" + "-".repeat(11) + "(1)*" + "-".repeat(12) + "1;", 1);
    }

    private static void depthOfAllTogether() {
        Check.sentence("The DEPTH of a token is how many {, ( and - (those before a factor) there are that begin before it");
        dueGood(round("{", 11, "a=(1);b=-1;c=f();d();{}", "}"), 16);
        dueReading(round("{", 12, "a=(1);", "}"), 14, 0);
        dueReading(round("{", 12, "a=-1;", "}"), 14, 0);
        dueReading(round("{", 12, "a=f(1);", "}"), 15, 0);
        dueReading(round("{", 12, "f();", "}"), 13, 0);
        dueReading(round("{", 12, "a=1;{}", "}"), 16, 0);
        dueReading(round("{", 11, "a=(-1);", "}"), 14, 0);
        dueReading(round("{", 11, "a=-(1);", "}"), 14, 0);
        dueReading(round("{", 11, "f(-1);", "}"), 13, 0);
        dueReading(round("{", 11, "f(g());", "}"), 14, 0);
        dueGood("a=" + round("-(", 6, "1", ")") + ";", 1);
        dueReading("a=" + round("-(", 6, "-1", ")") + ";", 14, 0);
        dueReading("a=" + round("-(", 6, "(1)", ")") + ";", 14, 0);
        dueGood("a=" + "-".repeat(11) + "f(1);", 1);
        dueReading("a=" + "-".repeat(12) + "f(1);", 15, 0);
        dueReading("a=" + "-".repeat(12) + "(1);", 14, 0);
        dueGood(round("{", 4, "a=" + round("(", 4, "----1", ")") + ";", "}"), 5);
        dueReading(round("{", 4, "a=" + round("(", 4, "-----1", ")") + ";", "}"), 14, 0);
    }

    private static void depthOfWhatIsClosed() {
        Check.sentence("whose own part (up to } or ), or the factor) it belongs to (not: what is over by then)");
        dueGood("{}".repeat(20) + round("{", 12, "", "}"), 32);
        dueReading("{}".repeat(20) + round("{", 13, "", "}"), 52, 20);
        dueGood("a=" + "(1)+".repeat(20) + round("(", 12, "1", ")") + ";", 1);
        dueGood("a=" + "-1+".repeat(20) + round("(", 12, "1", ")") + ";", 1);
        dueGood("f(" + "g(1),".repeat(20) + round("(", 11, "1", ")") + ");", 1);
        dueReading("f(" + "g(1),".repeat(20) + round("(", 12, "1", ")") + ");", 113, 0);
        dueGood("a=" + round("(", 11, "-1*-1+-1-(1)", ")") + ";", 1);
        dueGood(round("{", 12, "}{", "}"), 13);
    }

    private static void depthOfWhatOpensNothing() {
        Check.sentence("or which is a {, ( or - before a factor and has a depth of 12 (not: any other token)");
        dueGood("a=" + round("(", 12, "1-1", ")") + ";", 1);
        dueGood("a=" + round("(", 12, "b+\"c\"*1", ")") + ";", 1);
        dueGood(round("{", 12, "a=1-b*2;", "}"), 13);
        dueGood(round("f(", 12, "1,b", ")") + ";", 1);
        dueGood("a=" + "-".repeat(12) + "b;", 1);
        dueGood("a=" + "-".repeat(12) + "\"c\";", 1);
        // No row of items has these signs there: they end reading in any depth.
        dueReading("a=" + round("(", 12, "1(", ""), 15, 0);
        dueReading("a=" + round("(", 12, "1{", ""), 15, 0);
        dueReading(round("{", 12, "-", ""), 12, 0);
        dueReading(round("{", 12, "(", ""), 12, 0);
    }

    private static void readingEndsAtAWrongToken() {
        Check.sentence("it ends at the first token with which no row of items begins as the tokens up to it do");
        dueReading("$", 0, 0);
        dueReading("  \n  ) # x", 5, 0);
        dueReading("a$", 1, 0);
        dueReading("a=1;$b=2;", 4, 1);
        dueReading("a=1; # $\n $b=2;", 10, 1);
        dueReading("a=1;\"b", 4, 1);
        dueReading("f(1,\"", 4, 0);
        dueReading("a=1;)f();)", 4, 1);
        dueReading("a=1;{b=2;{c=3;}$}d=4;", 15, 1);
        dueReading("a=1;}", 4, 1);
        dueReading("{a=1;=}", 5, 0);
        dueReading(";".repeat(160), 0, 0);
        dueReading("a=1;".repeat(39) + "a=1}", 159, 39);
    }

    private static void readingEndsAtTooDeepAToken() {
        Check.sentence("or which is a {, ( or - before a factor and has a depth of 12");
        dueReading("a=1;" + round("{", 13, "", "}") + "b=2;", 16, 1);
        dueReading("a=1;b=" + round("(", 13, "1", ")") + ";c=3;", 18, 1);
        dueReading("a=1;b=" + "-".repeat(13) + "1;c=3;", 18, 1);
        dueReading("{".repeat(160), 12, 0);
        dueReading("a=" + "(".repeat(158), 14, 0);
        dueReading("a=" + "-".repeat(158), 14, 0);
        dueReading("f(".repeat(80), 25, 0);
        dueReading("{a=1;}" + round("{", 12, "a=-", ""), 20, 2);
    }

    private static void readingEndsBehindTheLast() {
        Check.sentence("or behind the last token");
        dueGood("a=1;", 1);
        dueGood("a=1; ", 1);
        dueGood("a=1;#;", 1);
        dueReading("a=1;b", 5, 1);
        dueReading("a=1;b ", 6, 1);
        dueReading("{".repeat(12), 12, 0);
        dueReading("a=" + "(".repeat(12), 14, 0);
        dueReading("a=" + "-".repeat(12), 14, 0);
    }

    private static void wholeItemsAreInTheTree() {
        Check.sentence("THE TREE is made of the items that are whole by then");
        dueReading("a=1", 3, 0);
        dueReading("a=1;b=2", 7, 1);
        dueReading("a=1;f(2)", 8, 1);
        dueReading("a=1;f(2);", KeptItems.NONE, 2);
        dueReading("{}{", 3, 1);
        dueReading("{}{}", KeptItems.NONE, 2);
        dueReading("a=1;b=2$;", 7, 1);
        dueReading("a=1;b=2;$", 8, 2);
        dueReading("$a=1;", 0, 0);
        dueReading("{}".repeat(79) + "{{", 160, 79);
    }

    private static void itemsInBrokenBlocksAreNot() {
        Check.sentence("and in no {} that isn't: these, and all inside them");
        dueReading("{a=1;", 5, 0);
        dueReading("{a=1;}", KeptItems.NONE, 2);
        dueReading("{a=1;$}", 5, 0);
        dueReading("{a=1;}$", 6, 2);
        dueReading("{{a=1;}", 7, 0);
        dueReading("{{a=1;}}", KeptItems.NONE, 3);
        dueReading("a=1;{b=2;{}c", 12, 1);
        dueReading("{{}}{{}{}{}", 11, 2);
        dueReading("a=1;{b=2;}{c=3;{}=", 17, 3);
        dueReading(round("{", 12, "a=1;", "}").substring(0, 27), 27, 0);
    }

    private static void dueItem(KeptItems x, int k, int begin, int end, int level) {
        Check.due("begin(" + k + ")", Check.begin(x, k), begin);
        Check.due("end(" + k + ")", Check.end(x, k), end);
        Check.due("level(" + k + ")", x.level(k), level);
    }

    private static void orderOfBeginning() {
        Check.sentence("in the order in which they begin");
        KeptItems x = Check.of("{a=1;{f();}}b=2;");
        dueItem(x, 0, 0, 12, 0);
        dueItem(x, 1, 1, 5, 1);
        dueItem(x, 2, 5, 11, 1);
        dueItem(x, 3, 6, 10, 2);
        dueItem(x, 4, 12, 16, 0);
        KeptItems y = Check.of(round("{", 12, "a=1;", "}"));
        for (int k = 0; k < 12; k++) {
            dueItem(y, k, k, 28 - k, k);
        }
        dueItem(y, 12, 12, 16, 12);
    }

    private static void goodReading() {
        Check.sentence("Reading is GOOD if it ends behind the last token and all tokens are in the tree");
        dueGood("", 0);
        dueGood("#", 0);
        dueGood("a=1;", 1);
        dueReading("a=1;b", 5, 1);
        dueReading("a=1;{", 5, 1);
        dueReading("a=1;{}}", 6, 2);
        dueGood("a=1;{}#}", 2);
        dueGood("a=1;{}\n", 2);
        dueGood(" ".repeat(158) + "{}", 1);
    }

    private static void faultIsAPlace() {
        Check.sentence("otherwise its FAULT is the place of the token at which it ends");
        dueReading("}", 0, 0);
        dueReading("\n}", 1, 0);
        dueReading("#}\n }", 4, 0);
        dueReading("a=1;  bb  cc", 10, 1);
        dueReading("a=\"xyz\" \"\";", 8, 0);
        dueReading(" ".repeat(159) + "}", 159, 0);
        dueReading("a=1;" + " ".repeat(155) + "\"", 159, 1);
        dueReading("$".repeat(160), 0, 0);
    }

    private static void faultIsTheLength() {
        Check.sentence("or the length of the text");
        dueReading("a", 1, 0);
        dueReading("a ", 2, 0);
        dueReading("a\n#", 3, 0);
        dueReading("a=1 # ;", 7, 0);
        dueReading("a=1;f(1,", 8, 1);
        dueReading("a=1;{b=2;\n", 10, 1);
        dueReading("a".repeat(159), 159, 0);
        dueReading("a".repeat(160), 160, 0);
        dueReading("a=1;{" + " ".repeat(155), 160, 1);
        dueReading("{".repeat(12) + "a=1;\n#", 18, 0);
    }

    private static void faultAnswers() {
        Check.sentence("Promise 9: The fault; NONE if reading is good.");
        KeptItems x = new KeptItems();
        Check.due("new: fault()", x.fault(), KeptItems.NONE);
        Check.edit(x, 0, 0, "a");
        Check.due("a: fault()", x.fault(), 1);
        Check.edit(x, 1, 0, "=1");
        Check.due("a=1: fault()", x.fault(), 3);
        Check.edit(x, 3, 0, ";");
        Check.due("a=1;: fault()", x.fault(), KeptItems.NONE);
        Check.type(x, "}");
        Check.due("beside a row: fault()", x.fault(), KeptItems.NONE);
        Check.edit(x, 0, 0);
        Check.due("}a=1;: fault()", x.fault(), 0);
        Check.edit(x, 6, 0);
        Check.due("behind a refused edit: fault()", x.fault(), 0);
        Check.edit(x, 0, 5);
        Check.due("empty again: fault()", x.fault(), KeptItems.NONE);
    }

    private static void itemsAreCounted() {
        Check.sentence("Promise 10: How many items the tree has.");
        KeptItems x = new KeptItems();
        Check.due("new: items()", x.items(), 0);
        Check.edit(x, 0, 0, "{}".repeat(20));
        Check.due("20: items()", x.items(), 20);
        Check.edit(x, 0, 0, "{}".repeat(20));
        Check.edit(x, 0, 0, "{}".repeat(20));
        Check.edit(x, 0, 0, "{}".repeat(19));
        Check.due("79: items()", x.items(), 79);
        Check.edit(x, 158, 0, "{}");
        Check.due("80: items()", x.items(), 80);
        Check.edit(x, 2, 1, "");
        Check.due("1: items()", x.items(), 1);
        Check.edit(x, 0, 1, "");
        Check.due("0: items()", x.items(), 0);
        Check.edit(x, 0, 2, "{{");
        Check.due("all in a {} that isn't whole: items()", x.items(), 0);
        Check.edit(x, 0, x.length(), "");
        Check.due("an empty text: items()", x.items(), 0);
    }

    private static void beginAnswers() {
        Check.sentence("Promise 14: The place of the first character of item k of the tree.");
        KeptItems x = Check.of(" a = 1 ; #x\n{ b() ; { } {c=\"d\n\";}}  # y");
        int[] due = {1, 12, 14, 20, 24, 25};
        for (int k = 0; k < due.length; k++) {
            Check.due("begin(" + k + ")", Check.begin(x, k), due[k]);
        }
        Check.edit(x, 0, 1, "");
        for (int k = 0; k < due.length; k++) {
            Check.due("one less: begin(" + k + ")", Check.begin(x, k), due[k] - 1);
        }
        Check.due("the first place", Check.begin(Check.of("{}"), 0), 0);
        Check.due("the last place but one", Check.begin(Check.of(" ".repeat(158) + "{}"), 0), 158);
        Check.due("of 80", Check.begin(Check.of("{}".repeat(80)), 79), 158);
    }

    private static void endAnswers() {
        Check.sentence("Promise 15: The place behind the last character of item k of the tree.");
        KeptItems x = Check.of(" a = 1 ; #x\n{ b() ; { } {c=\"d\n\";}}  # y");
        int[] due = {8, 34, 19, 23, 33, 32};
        for (int k = 0; k < due.length; k++) {
            Check.due("end(" + k + ")", Check.end(x, k), due[k]);
        }
        Check.edit(x, 0, 0, "\n");
        for (int k = 0; k < due.length; k++) {
            Check.due("one more: end(" + k + ")", Check.end(x, k), due[k] + 1);
        }
        Check.due("the smallest", Check.end(Check.of("{}"), 0), 2);
        Check.due("the end of a full text", Check.end(Check.of(" ".repeat(158) + "{}"), 0), 160);
        Check.due("all of a full text", Check.end(Check.of("{" + " ".repeat(158) + "}"), 0), 160);
        Check.due("with blanks behind", Check.end(Check.of("{}" + " ".repeat(158)), 0), 2);
    }

    /** Objects with items; in some of them items that are no more, or not yet, in the tree. */
    private static KeptItems[] objectsWithItems() {
        KeptItems[] xs = new KeptItems[8];
        int[] counts = {0, 1, 2, 79, 80};
        for (int n = 0; n < counts.length; n++) {
            xs[n] = Check.of("{}".repeat(counts[n]));
        }
        xs[5] = Check.of("{}{{}");
        xs[6] = Check.of("{}a=1;{}");
        Check.edit(xs[6], 2, 6);
        xs[7] = Check.of("{}{}");
        Check.edit(xs[7], 0, 1);
        return xs;
    }

    private static void beginThrows() {
        Check.sentence("Promise 14: IndexOutOfBoundsException if there is none.");
        for (KeptItems x : objectsWithItems()) {
            int count = x.items();
            Check.due(count + ": begin(-1)", Check.begin(x, -1), Check.INDEX);
            Check.due(count + ": begin(0)", Check.begin(x, 0), count == 0 ? Check.INDEX : 0);
            Check.due(count + ": begin(count - 1)", Check.begin(x, count - 1), count == 0 ? Check.INDEX : 2 * count - 2);
            Check.due(count + ": begin(count)", Check.begin(x, count), Check.INDEX);
            Check.due(count + ": begin(count + 1)", Check.begin(x, count + 1), Check.INDEX);
            for (int k : FAR) {
                Check.due(count + ": begin(" + k + ")", Check.begin(x, k), Check.INDEX);
            }
        }
    }

    private static void endThrows() {
        Check.sentence("Promise 15: IndexOutOfBoundsException if there is none.");
        for (KeptItems x : objectsWithItems()) {
            int count = x.items();
            Check.due(count + ": end(-1)", Check.end(x, -1), Check.INDEX);
            Check.due(count + ": end(0)", Check.end(x, 0), count == 0 ? Check.INDEX : 2);
            Check.due(count + ": end(count - 1)", Check.end(x, count - 1), count == 0 ? Check.INDEX : 2 * count);
            Check.due(count + ": end(count)", Check.end(x, count), Check.INDEX);
            Check.due(count + ": end(count + 1)", Check.end(x, count + 1), Check.INDEX);
            for (int k : FAR) {
                Check.due(count + ": end(" + k + ")", Check.end(x, k), Check.INDEX);
            }
        }
    }

    private static void levelAnswers() {
        Check.sentence("Promise 16: In how many {} item k of the tree is");
        for (int n : new int[] {0, 1, 11, 12}) {
            KeptItems x = Check.of(round("{", n, "a=1;", "}"));
            for (int k = 0; k <= n; k++) {
                Check.due(n + " round it: level(" + k + ")", x.level(k), k);
            }
        }
        KeptItems y = Check.of("{}{{}{f((1));}}a=-1;");
        int[] due = {0, 0, 1, 1, 2, 0};
        for (int k = 0; k < due.length; k++) {
            Check.due("level(" + k + ")", y.level(k), due[k]);
        }
        // a=1; stays while it comes into a {}.
        KeptItems z = Check.of("{}a=1;}");
        Check.due("outside: level(1)", z.level(1), 0);
        Check.edit(z, 1, 1, "");
        Check.due("inside: level(1)", z.level(1), 1);
        Check.due("inside: kept()", z.kept(), 1);
    }

    private static void levelAnswersNone() {
        Check.sentence("Promise 16: NONE if there is none.");
        for (KeptItems x : objectsWithItems()) {
            int count = x.items();
            Check.due(count + ": level(-1)", x.level(-1), KeptItems.NONE);
            Check.due(count + ": level(0)", x.level(0), count == 0 ? KeptItems.NONE : 0);
            Check.due(count + ": level(count - 1)", x.level(count - 1), count == 0 ? KeptItems.NONE : 0);
            Check.due(count + ": level(count)", x.level(count), KeptItems.NONE);
            Check.due(count + ": level(count + 1)", x.level(count + 1), KeptItems.NONE);
            for (int k : FAR) {
                Check.due(count + ": level(" + k + ")", x.level(k), KeptItems.NONE);
            }
        }
    }
}
