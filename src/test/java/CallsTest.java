/** How long an object serves: the document lets it be asked 512 times. */
public final class CallsTest {
    private static final int MOST_CALLS = 512;

    public static void main(String[] args) {
        editsUpToTheLastCall();
        numbersUpToTheLastCall();
        refusedCallsUpToTheLast();
        Check.finish("CallsTest");
    }

    private static void editsUpToTheLastCall() {
        Check.sentence("An object is used for at most 512 calls after it has been made (edits)");
        KeptItems x = new KeptItems();
        Check.type(x, "aa=1;");
        Check.due("edit", Check.edit(x, 0, 0), 4);
        // Inside the name: it does not stay, so every edit gives a new number.
        for (int call = 6; call < MOST_CALLS - 2; call++) {
            Check.due("call " + call, Check.edit(x, 1, 0), 1);
        }
        Check.due("the last but one: number(0)", x.number(0), MOST_CALLS - 2 - 6);
        Check.due("the last: which", x.which(MOST_CALLS - 2 - 6), 0);
    }

    private static void numbersUpToTheLastCall() {
        Check.sentence("the next ones of 0, 1, .. that none ever had (as many as 512 calls can give)");
        KeptItems x = Check.of("{}".repeat(80));
        int calls = 164;
        int given = 80;
        while (calls + 3 + 4 <= MOST_CALLS) {
            Check.due("the first { out", Check.edit(x, 0, 1), 0);
            Check.due("type", x.type('{'), true);
            Check.due("and in again", Check.edit(x, 0, 0), 1);
            calls += 3;
            given += 80;
        }
        Check.due("number(0)", x.number(0), given - 80);
        Check.due("number(79)", x.number(79), given - 1);
        Check.due("which of the last", x.which(given - 1), 79);
        Check.due("which of the next", x.which(given), KeptItems.NONE);
    }

    private static void refusedCallsUpToTheLast() {
        Check.sentence("An object is used for at most 512 calls after it has been made (refused calls)");
        KeptItems x = Check.of("a=1;");
        for (int n = 0; n < 71; n++) {
            Check.due("type", x.type((char) 127), false);
            Check.due("edit beyond the end", Check.edit(x, 4, 1), Check.INDEX);
            Check.due("token", Check.token(x, 4), Check.INDEX);
            Check.due("begin", Check.begin(x, 1), Check.INDEX);
            Check.due("end", Check.end(x, 1), Check.INDEX);
            Check.due("value", Check.value(x, 1), Check.INDEX);
            Check.due("wipe", x.wipe(), 0);
        }
        Check.due("fault()", x.fault(), KeptItems.NONE);
        Check.dueNumbers("as before", x, 0);
    }
}
