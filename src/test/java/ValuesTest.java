/** Values, sentence by sentence: "Terms" and promise 17. */
public final class ValuesTest {
    private static final int MAX = Integer.MAX_VALUE;
    private static final int MIN = Integer.MIN_VALUE;

    public static void main(String[] args) {
        valuesWrap();
        numbers();
        strings();
        namesOfTheSameLetters();
        theOneThatBeganLast();
        beforeTheItemInWhichItStands();
        namesWithoutAnItem();
        lettersOfACall();
        sumsOfACall();
        signs();
        minus();
        valuesOfItems();
        itemsRightInside();
        valueAnswers();
        valueThrows();
        Check.finish("ValuesTest");
    }

    private static void dueValues(String text, int... values) {
        KeptItems x = Check.of(text);
        Check.due(text + ": items()", x.items(), values.length);
        for (int k = 0; k < values.length; k++) {
            Check.due(text + ": value(" + k + ")", Check.value(x, k), values[k]);
        }
    }

    private static void valuesWrap() {
        Check.sentence("VALUES are ints and wrap.");
        dueValues("a=2147483646+1;b=2147483647+0;c=2147483647+1;d=c+c;", MAX, MAX, MIN, 0);
        dueValues("a=0-2147483647-1;b=a-0;c=a-1;d=0-a;", MIN, MIN, MAX, MIN);
        dueValues("a=46340*46340;b=46341*46341;c=65536*65536;", 2147395600, -2147479015, 0);
        dueValues("a=65536*32767;b=65536*32768;c=-65536*32768;d=b*-1;", 2147418112, MIN, MIN, MIN);
        dueValues("a=2147483647*2;b=2147483647*2147483647;", -2, 1);
        dueValues("f(2147483616);f(2147483617);", MAX, MIN);
        dueValues("f(2147483647,2147483647);", (31 + MAX) * 31 + MAX);
        // 1 + 31 + .. + 31 to the 6th is below 2 to the 31st, and with the 7th it is far above.
        dueValues("f(1,1,1,1,1,1);f(1,1,1,1,1,1,1);", 917087137, (int) 28429701248L);
    }

    private static void numbers() {
        Check.sentence("NUMBER: 0, and for each digit 10 times what it was and the digit more.");
        dueValues("a=0;b=9;c=10;d=1234567890;", 0, 9, 10, 1234567890);
        dueValues("a=00;b=007;c=010;d=0899;", 0, 7, 10, 899);
        dueValues("a=2147483647;b=2147483648;c=2147483649;", MAX, MIN, MIN + 1);
        dueValues("a=4294967295;b=4294967296;c=4294967297;", -1, 0, 1);
        dueValues("a=99999999999;b=18446744073709551616;c=18446744073709551617;", (int) 99999999999L, 0, 1);
        dueValues("a=" + "0".repeat(156) + "7;", 7);
        dueValues("a=1" + "0".repeat(31) + ";b=1" + "0".repeat(32) + ";", MIN, 0);
        dueValues("a=" + "9".repeat(157) + ";", new java.math.BigInteger("9".repeat(157)).intValue());
    }

    private static void strings() {
        Check.sentence("STRING: how many characters are between its quotes.");
        dueValues("a=\"\";b=\"x\";c=\"xy\";", 0, 1, 2);
        dueValues("a=\"\n\";b=\"#\";c=\" 1;\n# \";", 1, 1, 6);
        dueValues("a=\"" + "x".repeat(154) + "\" ;", 154);
        dueValues("a=\"" + "x".repeat(155) + "\";", 155);
        dueValues("f(\"abc\");", 34);
    }

    private static void namesOfTheSameLetters() {
        Check.sentence("NAME: the value of the item NAME = sum of the same letters");
        dueValues("a=1;b=a;", 1, 1);
        dueValues("a=1;aa=2;ab=3;b=aa;c=ab;d=a;", 1, 2, 3, 2, 3, 1);
        dueValues("ab=1;ba=2;c=ab;d=ba;e=b;f=a;g=abb;", 1, 2, 1, 2, 0, 0, 0);
        dueValues("f();b=f;", 1, 0);
        dueValues("a=5;a(1);b=a;", 5, 32, 5);
        String name = "x".repeat(70);
        dueValues(name + "=7;b=" + name + "x;", 7, 0);
        dueValues(name + "=7;b=" + name + ";", 7, 7);
        dueValues("z" + name + "=7;b=y" + name + ";", 7, 0);
    }

    private static void theOneThatBeganLast() {
        Check.sentence("that began last before");
        dueValues("a=1;a=2;b=a;", 1, 2, 2);
        dueValues("a=1;b=2;a=3;c=a+b;", 1, 2, 3, 5);
        dueValues("a=1;{a=2;}b=a;", 1, 1, 2, 2);
        dueValues("{a=1;}a=2;b=a;", 1, 1, 2, 2);
        dueValues("a=1;{b=a;a=2;{c=a;a=3;}d=a;}e=a;", 1, 4, 1, 2, 2, 2, 3, 3, 3);
        int[] values = new int[39];
        values[37] = 5;
        values[38] = 5;
        dueValues("a=0;".repeat(37) + "a=5;b=a;", values);
    }

    private static void beforeTheItemInWhichItStands() {
        Check.sentence("before the item in which it stands");
        dueValues("b=a;a=1;", 0, 1);
        dueValues("a=a;", 0);
        dueValues("a=1+a;", 1);
        dueValues("a=1;a=a+1;a=a*10+a;b=a;", 1, 2, 22, 22);
        dueValues("a=3;a(a);b=f(a,a(a));", 3, 34, (31 + 3) * 31 + 31 + 3);
        // The item in which it stands is the innermost one, not the {} round that.
        dueValues("{a=4;b=a;}c=a;", 2, 4, 4, 4);
        dueValues("{{a=4;}b=a;}", 2, 1, 4, 4);
        dueValues("{b=a;a=4;}", 2, 0, 4);
    }

    private static void namesWithoutAnItem() {
        Check.sentence("0 if there is none");
        dueValues("a=b;", 0);
        dueValues("f(b);", 31);
        dueValues("a=7-b*5;", 7);
        // An item that is gone, or not there yet, or in no tree, is none.
        KeptItems x = Check.of("a=1;b=a+1;");
        Check.edit(x, 0, 4, "");
        Check.due("a is gone", Check.value(x, 0), 1);
        Check.edit(x, 6, 0, "a=5;");
        Check.due("a is behind", Check.value(x, 0), 1);
        Check.edit(x, 0, 0, "#a=5;\n");
        Check.due("a is in a comment", Check.value(x, 0), 1);
        Check.edit(x, 0, 1, "");
        Check.due("a is before", Check.value(x, 1), 6);
        dueValues("a=6;b=a;}a=7;", 6, 6);
        dueValues("a=6;b=a;{a=7;c=a;", 6, 6);
    }

    private static void lettersOfACall() {
        Check.sentence("NAME ( list ): the number of its letters");
        dueValues("f();abc();", 1, 3);
        dueValues("f=1;f();g=f();", 1, 1, 1);
        dueValues("x".repeat(157) + "();", 157);
        dueValues("a=" + "x".repeat(155) + "();", 155);
    }

    private static void sumsOfACall() {
        Check.sentence("and for each sum of the list 31 times what it was and that sum more");
        dueValues("f(0);f(5);abc(2);", 31, 36, 95);
        dueValues("f(1,2);f(2,1);f(1,2,3);", 32 * 31 + 2, 33 * 31 + 1, (32 * 31 + 2) * 31 + 3);
        dueValues("x=f()+f(1)*2;y=ff(1+1,-1);", 65, (62 + 2) * 31 - 1);
        dueValues("x=f(g(h()));y=f(\"abc\",(1));", 31 + 31 + 1, (31 + 3) * 31 + 1);
        int many = 1;
        for (int n = 0; n < 78; n++) {
            many = 31 * many + 2;
        }
        dueValues("f(2" + ",2".repeat(77) + ");", many);
    }

    private static void signs() {
        Check.sentence("+ - * as they say");
        dueValues("a=1+2*3;b=(1+2)*3;c=2*3+1;d=2*3*4;", 7, 9, 7, 24);
        dueValues("a=9-4-3;b=9-(4-3);c=9-4+3;d=1-2*3-4;", 2, 8, 8, -9);
        dueValues("a=10-2*3+4*5-6;b=2*(3-4)*5;c=((5));", 18, -10, 5);
        dueValues("a=1" + "+1".repeat(78) + ";", 79);
        dueValues("a=1" + "-1".repeat(78) + ";", -77);
        dueValues("a=3" + "*3".repeat(78) + ";", java.math.BigInteger.valueOf(3).pow(79).intValue());
    }

    private static void minus() {
        Check.sentence("- factor is 0 less the factor");
        dueValues("a=-0;b=-5;c=--5;d=-(-5);e=-\"xy\";", 0, -5, 5, 5, -2);
        dueValues("a=2--3;b=2*-3;c=-2*3+1;d=-2-2;e=-2*-3*-1;", 5, -6, -5, -4, -6);
        dueValues("a=-2147483647;b=-2147483648;c=--2147483648;", -MAX, MIN, MIN);
        dueValues("x=-f(2);y=f(1)-f();z=-x*-(y+y);", -33, 31, -33 * 62);
        dueValues("a=" + "-".repeat(11) + "1;b=" + "-".repeat(12) + "1;", -1, 1);
    }

    private static void valuesOfItems() {
        Check.sentence("The value of an item is that of its sum, or of its NAME ( list )");
        dueValues("a=7;f(7);", 7, 38);
        dueValues("{a=7;{f(7);}}", 2, 7, 1, 38);
    }

    private static void itemsRightInside() {
        Check.sentence("or how many items are right inside its {}");
        dueValues("{}", 0);
        dueValues("{a=9;}", 1, 9);
        dueValues("{{}}", 1, 0);
        dueValues("{{}{{}{}}f();}", 3, 0, 2, 0, 0, 1);
        dueValues("{a=1;b=2;c=3;{d=4;}}e=5;", 4, 1, 2, 3, 1, 4, 5);
        int[] values = new int[80];
        values[0] = 79;
        dueValues("{" + "{}".repeat(79) + "}", values);
        int[] ones = {1, 1, 1, 1, 1, 1, 1, 1, 1, 1, 1, 0};
        dueValues("{".repeat(12) + "}".repeat(12), ones);
    }

    private static void valueAnswers() {
        Check.sentence("Promise 17: The value of item k of the tree.");
        KeptItems x = Check.of("a=1;b=a+1;");
        Check.due("value(0)", Check.value(x, 0), 1);
        Check.due("value(1)", Check.value(x, 1), 2);
        Check.edit(x, 0, 0, "{a=5;}");
        Check.due("moved: value(0)", Check.value(x, 0), 1);
        Check.due("moved: value(3)", Check.value(x, 3), 2);
        Check.edit(x, 8, 1, "9");
        Check.due("changed: value(2)", Check.value(x, 2), 9);
        Check.due("of an item that stayed: value(3)", Check.value(x, 3), 10);
        Check.edit(x, 6, 1, "c");
        Check.due("the earlier a: value(3)", Check.value(x, 3), 6);
    }

    private static void valueThrows() {
        Check.sentence("Promise 17: IndexOutOfBoundsException if there is none.");
        for (int count : new int[] {0, 1, 2, 39, 40}) {
            KeptItems x = Check.of("a=7;".repeat(count));
            Check.due(count + ": value(-1)", Check.value(x, -1), Check.INDEX);
            Check.due(count + ": value(count - 1)", Check.value(x, count - 1), count == 0 ? Check.INDEX : 7);
            Check.due(count + ": value(count)", Check.value(x, count), Check.INDEX);
            Check.due(count + ": value(count + 1)", Check.value(x, count + 1), Check.INDEX);
            for (int k : new int[] {-160, 159, 160, 161, MIN, MAX}) {
                Check.due(count + ": value(" + k + ")", Check.value(x, k), Check.INDEX);
            }
        }
        KeptItems y = Check.of("a=1;{b=2;");
        Check.due("begun, but not in the tree: value(1)", Check.value(y, 1), Check.INDEX);
        Check.due("begun, but not in the tree: value(2)", Check.value(y, 2), Check.INDEX);
        Check.edit(y, 0, 1);
        Check.due("in the tree once: value(0)", Check.value(y, 0), Check.INDEX);
    }
}
