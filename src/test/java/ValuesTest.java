/** Promise 17: value. */
public final class ValuesTest {
    public static void main(String[] args) {
        factors();
        signs();
        names();
        lists();
        blocks();
        wraps();
        valuesFollowEdits();
        Check.finish("ValuesTest");
    }

    private static void dueValues(String text, int... values) {
        KeptItems x = Check.of(text);
        Check.due(text + ": items()", x.items(), values.length);
        for (int k = 0; k < values.length; k++) {
            Check.due(text + ": value(" + k + ")", Check.value(x, k), values[k]);
        }
        Check.due(text + ": value behind the last", Check.value(x, values.length), Check.INDEX);
        Check.due(text + ": value(-1)", Check.value(x, -1), Check.INDEX);
    }

    private static void factors() {
        dueValues("a=0;b=7;c=1234567890;d=007;", 0, 7, 1234567890, 7);
        dueValues("a=\"\";b=\"x\";c=\"a\n#;\";", 0, 1, 4);
        dueValues("a=(((5)));b=-5;c=--5;d=-(-5);e=-\"xy\";", 5, -5, 5, 5, -2);
    }

    private static void signs() {
        dueValues("a=1+2*3;b=(1+2)*3;c=2*3+1;d=2*3*4;", 7, 9, 7, 24);
        dueValues("a=9-4-3;b=9-(4-3);c=9-4+3;d=1-2*3-4;", 2, 8, 8, -9);
        dueValues("a=2--3;b=2*-3;c=-2*3+1;d=-2-2;e=-2*-3*-1;", 5, -6, -5, -4, -6);
        dueValues("a=10-2*3+4*5-6;", 18);
    }

    private static void names() {
        dueValues("a=1;b=a;", 1, 1);
        dueValues("b=a;a=1;", 0, 1);
        dueValues("a=a;", 0);
        dueValues("a=1;a=a+1;a=a*10+a;b=a;", 1, 2, 22, 22);
        dueValues("a=1;b=2;a=3;c=a+b;", 1, 2, 3, 5);
        dueValues("a=1;aa=2;ab=3;b=aa+ab*a;", 1, 2, 3, 5);
        dueValues("ab=1;ba=2;c=ab;d=ba;e=b;", 1, 2, 1, 2, 0);
        dueValues("ab=5;a=1;c=ab;b=a;ab=6;d=a;", 5, 1, 5, 1, 6, 1);
        dueValues("a=5;a(1);b=a;", 5, 32, 5);
        dueValues("f();b=f;", 1, 0);
        dueValues("{a=4;}b=a;", 1, 4, 4);
        dueValues("a=1;{b=a;a=2;{c=a;a=3;}d=a;}e=a;", 1, 4, 1, 2, 2, 2, 3, 3, 3);
        dueValues("a=3;f(a,a(a));", 3, (31 + 3) * 31 + 31 + 3);
        dueValues("a=1;b=-a*-(a+a);c=b-a;", 1, 2, 1);
        // A fault behind them changes nothing.
        dueValues("a=6;b=a;}a=7;", 6, 6);
        dueValues("a=6;b=a;{a=7;c=a;", 6, 6);
    }

    private static void lists() {
        dueValues("f();abc();", 1, 3);
        dueValues("f(0);f(5);abc(2);", 31, 36, 95);
        dueValues("f(1,2);f(1,2,3);", 32 * 31 + 2, (32 * 31 + 2) * 31 + 3);
        dueValues("x=f()+f(1)*2;y=ff(1+1,-1);", 65, (62 + 2) * 31 - 1);
        dueValues("x=f(g(h()));y=f(\"abc\",());", 31 + 31 + 1);
        dueValues("x=-f(2);y=f(1)-f();", -33, 31);
    }

    private static void blocks() {
        dueValues("{}", 0);
        dueValues("{a=9;}", 1, 9);
        dueValues("{{}{{}{}}f();}", 3, 0, 2, 0, 0, 1);
        dueValues("{a=1;b=2;c=3;{d=4;}}", 4, 1, 2, 3, 1, 4);
        int[] values = new int[79];
        values[0] = 78;
        dueValues("{" + "{}".repeat(78) + " }", values);
    }

    private static void wraps() {
        dueValues("a=2147483647;b=2147483648;c=4294967296;", Integer.MAX_VALUE, Integer.MIN_VALUE, 0);
        dueValues("n=99999999999;", (int) 99999999999L);
        dueValues("a=2147483647+1;b=-2147483648;c=0-2147483648-1;", Integer.MIN_VALUE,
            Integer.MIN_VALUE, Integer.MAX_VALUE);
        dueValues("a=65536*65536;b=65536*32768;", 0, Integer.MIN_VALUE);
        dueValues("f(2147483647,2147483647);", (31 + Integer.MAX_VALUE) * 31 + Integer.MAX_VALUE);
    }

    private static void valuesFollowEdits() {
        KeptItems x = Check.of("a=1;b=a+1;");
        Check.edit(x, 0, 4, "");
        Check.due("without a", Check.value(x, 0), 1);
        Check.edit(x, 6, 0, "a=5;");
        Check.due("with a behind", Check.value(x, 0), 1);
        Check.edit(x, 0, 0, "{a=5;}");
        Check.due("with a in {} before", Check.value(x, 2), 6);
        Check.due("the {} before", Check.value(x, 0), 1);
        Check.edit(x, 1, 0, "a=3;");
        Check.due("with two", Check.value(x, 0), 2);
        Check.due("the later one counts", Check.value(x, 3), 6);
        Check.edit(x, 5, 1, "c");
        Check.due("now the earlier one", Check.value(x, 3), 4);
    }
}
