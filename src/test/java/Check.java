/** What the project's tests share: an object that is written to as a text, and answers that are due. */
final class Check {
    static final long INDEX = Long.MIN_VALUE;
    static final long STATE = Long.MIN_VALUE + 1;
    private static final long OTHER = Long.MIN_VALUE + 2;

    private static int wrong = 0;
    private static int looked = 0;

    private Check() {
    }

    static void due(String call, long got, long want) {
        looked++;
        if (got != want) {
            wrong++;
            System.out.println(call + " answered " + said(got) + ", due is " + said(want));
        }
    }

    static void due(String call, boolean got, boolean want) {
        due(call, got ? 1 : 0, want ? 1 : 0);
    }

    private static String said(long answer) {
        return answer == INDEX ? "throws.IndexOutOfBoundsException"
            : answer == STATE ? "throws.IllegalStateException"
            : answer == OTHER ? "throws by itself" : Long.toString(answer);
    }

    /** A class below IndexOutOfBoundsException is what an array or a text throws by itself. */
    private static long thrown(IndexOutOfBoundsException e) {
        return e.getClass() == IndexOutOfBoundsException.class ? INDEX : OTHER;
    }

    static void finish(String test) {
        System.out.println(test + ": " + looked + " answers looked at, " + wrong + " wrong");
        if (wrong > 0 || looked == 0) {
            System.exit(1);
        }
    }

    /** A new object whose text is this one, in as many edits as that takes. */
    static KeptItems of(String text) {
        KeptItems x = new KeptItems();
        for (int from = 0; from < text.length(); from += 40) {
            edit(x, from, 0, text.substring(from, Math.min(from + 40, text.length())));
        }
        return x;
    }

    static void type(KeptItems x, String row) {
        for (int i = 0; i < row.length(); i++) {
            due("type((char) " + (int) row.charAt(i) + ")", x.type(row.charAt(i)), true);
        }
    }

    static long edit(KeptItems x, int at, int gone, String row) {
        type(x, row);
        return edit(x, at, gone);
    }

    static long edit(KeptItems x, int at, int gone) {
        try {
            return x.edit(at, gone);
        } catch (IndexOutOfBoundsException e) {
            return thrown(e);
        } catch (IllegalStateException e) {
            return STATE;
        }
    }

    static long token(KeptItems x, int k) {
        try {
            return x.token(k);
        } catch (IndexOutOfBoundsException e) {
            return thrown(e);
        }
    }

    static long begin(KeptItems x, int k) {
        try {
            return x.begin(k);
        } catch (IndexOutOfBoundsException e) {
            return thrown(e);
        }
    }

    static long end(KeptItems x, int k) {
        try {
            return x.end(k);
        } catch (IndexOutOfBoundsException e) {
            return thrown(e);
        }
    }

    static long value(KeptItems x, int k) {
        try {
            return x.value(k);
        } catch (IndexOutOfBoundsException e) {
            return thrown(e);
        }
    }

    static void dueText(String when, KeptItems x, String text) {
        due(when + ": length()", x.length(), text.length());
        for (int i = 0; i < text.length(); i++) {
            due(when + ": at(" + i + ")", x.at(i), text.charAt(i));
        }
    }

    static void dueNumbers(String when, KeptItems x, int... numbers) {
        due(when + ": items()", x.items(), numbers.length);
        for (int k = 0; k < numbers.length; k++) {
            due(when + ": number(" + k + ")", x.number(k), numbers[k]);
            due(when + ": which(" + numbers[k] + ")", x.which(numbers[k]), k);
        }
        due(when + ": number behind the last", x.number(numbers.length), KeptItems.NONE);
    }
}
