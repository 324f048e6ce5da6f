/** Promises 9, 10, 14, 15 and 16: fault, items, begin, end, level. */
public final class ReadingTest {
    public static void main(String[] args) {
        goodTexts();
        faults();
        textsThatEndTooEarly();
        depth();
        places();
        manyItems();
        wrongItems();
        Check.finish("ReadingTest");
    }

    private static void dueReading(String text, int fault, int items) {
        KeptItems x = Check.of(text);
        Check.due(text + ": fault()", x.fault(), fault);
        Check.due(text + ": items()", x.items(), items);
    }

    private static void dueGood(String text, int items) {
        dueReading(text, KeptItems.NONE, items);
    }

    private static void goodTexts() {
        dueGood("", 0);
        dueGood(" \n# a=", 0);
        dueGood("a=1;", 1);
        dueGood("a=\"\";b=c;d=e();f=(g);h=-i;", 5);
        dueGood("f();g(1);h(1,\"x\",y,z(),(1),-1);", 3);
        dueGood("{}", 1);
        dueGood("{}{a=1;}{{}{}b();}", 7);
        dueGood("a=1+2-3*4*-5--6;", 1);
        dueGood("a=f(1+2,g(h(),3)*4)-(5-(6));", 1);
        dueGood("a=-(1)+-f(-b);", 1);
        dueGood(" a = 1 ; # and\n b = 2 ; #", 2);
    }

    private static void faults() {
        dueReading("=", 0, 0);
        dueReading("1=1;", 0, 0);
        dueReading("\"a\"=1;", 0, 0);
        dueReading("}", 0, 0);
        dueReading("a=1;}", 4, 1);
        dueReading("{}}", 2, 1);
        dueReading("a=1;;", 4, 1);
        dueReading("a;", 1, 0);
        dueReading("a b", 2, 0);
        dueReading("a=;", 2, 0);
        dueReading("a=1", 3, 0);
        dueReading("a=1 2;", 4, 0);
        dueReading("a=1,2;", 3, 0);
        dueReading("a=1);", 3, 0);
        dueReading("a=(1;", 4, 0);
        dueReading("a=(1,2);", 4, 0);
        dueReading("a=();", 3, 0);
        dueReading("a=+1;", 2, 0);
        dueReading("a=1+;", 4, 0);
        dueReading("a=1*;", 4, 0);
        dueReading("a=1**2;", 4, 0);
        dueReading("a=-;", 3, 0);
        dueReading("a=1(2);", 3, 0);
        dueReading("a=\"x\"(2);", 5, 0);
        dueReading("a=(b)(2);", 5, 0);
        dueReading("a=b(2)(3);", 6, 0);
        dueReading("a=b=c;", 3, 0);
        dueReading("f(,);", 2, 0);
        dueReading("f(1,);", 4, 0);
        dueReading("f(1 2);", 4, 0);
        dueReading("f(1;", 3, 0);
        dueReading("f()", 3, 0);
        dueReading("f()+1;", 3, 0);
        dueReading("f()g();", 3, 0);
        dueReading("f(a=1);", 3, 0);
        dueReading("a={};", 2, 0);
        dueReading("{};", 2, 1);
        dueReading("{a=1}", 4, 0);
        dueReading("{a=1;=}", 5, 0);
        dueReading("{1}", 1, 0);
        dueReading("a=1;$b=2;", 4, 1);
        dueReading("a=$;", 2, 0);
        dueReading("a=1;{b=2;{c=3;}$}d=4;", 15, 1);
        dueReading("a=1;{b=2;}{c=3;{}=", 17, 3);
        dueReading("  \n  ) # x", 5, 0);
        dueReading("a=1;\"b", 4, 1);
        dueReading("a=\"x;", 2, 0);
        dueReading("f(1,\"", 4, 0);
    }

    private static void textsThatEndTooEarly() {
        dueReading("a", 1, 0);
        dueReading("a ", 2, 0);
        dueReading("a=1 # ;", 7, 0);
        dueReading("a=1;b", 5, 1);
        dueReading("a=1;f(1,", 8, 1);
        dueReading("{", 1, 0);
        dueReading("{a=1;{}", 7, 0);
        dueReading("a=1;{b=2;", 9, 1);
        dueReading("a=1;{b=2;\n", 10, 1);
        dueReading("{}{", 3, 1);
        dueReading("{}".repeat(79) + "{{", 160, 79);
        dueReading("{".repeat(12) + "a=1;\n#", 18, 0);
    }

    private static String round(String open, int n, String inside, String close) {
        return open.repeat(n) + inside + close.repeat(n);
    }

    private static void depth() {
        dueGood("a=" + round("(", 12, "1", ")") + ";", 1);
        dueReading("a=" + round("(", 13, "1", ")") + ";", 14, 0);
        dueGood("a=" + round("-", 12, "1", "") + ";", 1);
        dueReading("a=" + round("-", 13, "1", "") + ";", 14, 0);
        dueGood(round("{", 12, "", "}"), 12);
        dueReading(round("{", 13, "", "}"), 12, 0);
        dueGood(round("f(", 12, "1", ")") + ";", 1);
        dueReading(round("f(", 13, "1", ")") + ";", 25, 0);
        dueGood("a=" + round("f(", 12, "1", ")") + ";", 1);
        dueReading("a=" + round("f(", 13, "", ")") + ";", 27, 0);
        dueGood(round("f(1,", 12, "1", ")") + ";", 1);
        dueReading(round("f(1,", 13, "1", ")") + ";", 49, 0);
        dueReading("a=" + round("f(1,2,", 13, "1", ")") + ";", 75, 0);
        dueGood(round("{", 12, "a=1-b*2;", "}"), 13);
        dueReading(round("{", 12, "a=-1;", "}"), 14, 0);
        dueReading(round("{", 12, "a=(1);", "}"), 14, 0);
        dueReading(round("{", 12, "a=f(1);", "}"), 15, 0);
        dueReading(round("{", 12, "f();", "}"), 13, 0);
        dueReading(round("{", 12, "a=1;{}", "}"), 16, 0);
        dueGood(round("{", 11, "a=(1);b=-1;c=f();d();{}", "}"), 16);
        dueReading(round("{", 11, "a=(-1);", "}"), 14, 0);
        dueReading(round("{", 11, "a=-(1);", "}"), 14, 0);
        // What is before a sign, but closed by then, does not count.
        dueGood("a=" + round("(", 12, "1-1", ")") + ";", 1);
        dueGood("a=" + round("(", 11, "-1*-1+-1-(1)", ")") + ";", 1);
        dueGood("a=" + round("-", 12, "1", "") + "*(1)-" + round("-", 12, "1", "") + ";", 1);
        dueReading("a=" + round("-", 12, "(1)", "") + ";", 14, 0);
        dueReading("a=" + round("-", 12, "f(1)", "") + ";", 15, 0);
        dueGood("a=" + round("-", 11, "f(1)", "") + "-" + round("-(", 6, "1", ")") + ";", 1);
        dueGood("{}".repeat(20) + "a=1;", 21);
        dueGood("a=" + "(1)+".repeat(20) + "-1;", 1);
        dueGood("f(" + "(1),".repeat(20) + "-1);", 1);
        // What is whole before too deep a sign is in the tree.
        dueReading("a=1;" + round("{", 13, "", "}"), 16, 1);
        // A sign that no row of items has there ends reading in any depth.
        dueReading("a=" + round("(", 12, "1(", ""), 15, 0);
    }

    private static void dueItem(KeptItems x, int k, int begin, int end, int level) {
        Check.due("begin(" + k + ")", Check.begin(x, k), begin);
        Check.due("end(" + k + ")", Check.end(x, k), end);
        Check.due("level(" + k + ")", x.level(k), level);
    }

    private static void places() {
        KeptItems x = Check.of(" a = 1 ; #x\n{ b() ; { } {c=\"d\n\";}}  # y");
        Check.due("places: items()", x.items(), 6);
        dueItem(x, 0, 1, 8, 0);
        dueItem(x, 1, 12, 34, 0);
        dueItem(x, 2, 14, 19, 1);
        dueItem(x, 3, 20, 23, 1);
        dueItem(x, 4, 24, 33, 1);
        dueItem(x, 5, 25, 32, 2);
        Check.edit(x, 0, 1, "");
        dueItem(x, 0, 0, 7, 0);
        dueItem(x, 5, 24, 31, 2);
        KeptItems y = Check.of(round("{", 12, "a=1;", "}"));
        for (int k = 0; k < 12; k++) {
            dueItem(y, k, k, 28 - k, k);
        }
        dueItem(y, 12, 12, 16, 12);
        // a=1; stays, but comes into {}.
        KeptItems z = Check.of("{}a=1;}");
        dueItem(z, 1, 2, 6, 0);
        Check.edit(z, 1, 1, "");
        dueItem(z, 0, 0, 6, 0);
        dueItem(z, 1, 1, 5, 1);
    }

    private static void manyItems() {
        KeptItems x = Check.of("{}".repeat(80));
        Check.due("80: items()", x.items(), 80);
        Check.due("80: fault()", x.fault(), KeptItems.NONE);
        dueItem(x, 79, 158, 160, 0);
        Check.due("80: begin(80)", Check.begin(x, 80), Check.INDEX);
    }

    private static void wrongItems() {
        KeptItems x = Check.of("a=1;{b=2;");
        for (int k : new int[] {-1, 1, 2, 159, 160, Integer.MIN_VALUE, Integer.MAX_VALUE}) {
            Check.due("number(" + k + ")", x.number(k), KeptItems.NONE);
            Check.due("level(" + k + ")", x.level(k), KeptItems.NONE);
            Check.due("begin(" + k + ")", Check.begin(x, k), Check.INDEX);
            Check.due("end(" + k + ")", Check.end(x, k), Check.INDEX);
            Check.due("value(" + k + ")", Check.value(x, k), Check.INDEX);
        }
    }
}
