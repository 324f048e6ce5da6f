/** What the project's tests share: an object that is written to as a text, and answers that are due. */
final class Check {
    static final long INDEX = Long.MIN_VALUE;
    static final long STATE = Long.MIN_VALUE + 1;
    private static final long OTHER = Long.MIN_VALUE + 2;

    private static int wrong = 0;
    private static int looked = 0;
    private static int sentences = 0;
    private static String sentence = "";

    private Check() {
    }

    /** Begins the test of a sentence of the document, with its words: what is wrong is told below them. */
    static void sentence(String words) {
        sentence = words;
        sentences++;
    }

    static void due(String call, long got, long want) {
        looked++;
        if (got != want) {
            tellWrong(call + " answered " + said(got) + ", due is " + said(want));
        }
    }

    private static void tellWrong(String words) {
        wrong++;
        if (!sentence.isEmpty()) {
            System.out.println("[" + sentence + "]");
            sentence = "";
        }
        System.out.println("  " + words);
    }

    static void due(String call, boolean got, boolean want) {
        due(call, got ? 1 : 0, want ? 1 : 0);
    }

    private static String said(long answer) {
        return answer == INDEX ? "throws.IndexOutOfBoundsException"
            : answer == STATE ? "throws.IllegalStateException"
            : answer == OTHER ? "throws by itself" : Long.toString(answer);
    }

    /** A class below IndexOutOfBoundsException is what an array or a text throws by itself. */
    private static long thrown(IndexOutOfBoundsException e) {
        return e.getClass() == IndexOutOfBoundsException.class ? INDEX : OTHER;
    }

    static void finish(String test) {
        String tested = sentences > 0 ? sentences + " sentences, " : "";
        System.out.println(test + ": " + tested + looked + " answers looked at, " + wrong + " wrong");
        if (wrong > 0 || looked == 0) {
            System.exit(1);
        }
    }

    /** A new object whose text is this one, in as many edits as that takes. */
    static KeptItems of(String text) {
        KeptItems x = new KeptItems();
        for (int from = 0; from < text.length(); from += 40) {
            edit(x, from, 0, text.substring(from, Math.min(from + 40, text.length())));
        }
        return x;
    }

    static void type(KeptItems x, String row) {
        for (int i = 0; i < row.length(); i++) {
            due("type((char) " + (int) row.charAt(i) + ")", x.type(row.charAt(i)), true);
        }
    }

    static long edit(KeptItems x, int at, int gone, String row) {
        type(x, row);
        return edit(x, at, gone);
    }

    static long edit(KeptItems x, int at, int gone) {
        try {
            return x.edit(at, gone);
        } catch (IndexOutOfBoundsException e) {
            return thrown(e);
        } catch (IllegalStateException e) {
            return STATE;
        }
    }

    static long token(KeptItems x, int k) {
        try {
            return x.token(k);
        } catch (IndexOutOfBoundsException e) {
            return thrown(e);
        }
    }

    static long begin(KeptItems x, int k) {
        try {
            return x.begin(k);
        } catch (IndexOutOfBoundsException e) {
            return thrown(e);
        }
    }

    static long end(KeptItems x, int k) {
        try {
            return x.end(k);
        } catch (IndexOutOfBoundsException e) {
            return thrown(e);
        }
    }

    static long value(KeptItems x, int k) {
        try {
            return x.value(k);
        } catch (IndexOutOfBoundsException e) {
            return thrown(e);
        }
    }

    static void dueText(String when, KeptItems x, String text) {
        due(when + ": length()", x.length(), text.length());
        for (int i = 0; i < text.length(); i++) {
            due(when + ": at(" + i + ")", x.at(i), text.charAt(i));
        }
    }

    /**
     * Looks whether a refused call has changed an answer: the twin was made in the same way, but not asked for
     * that call. Numbers are looked for up to a bound.
     */
    static void dueAsTwin(String when, KeptItems x, KeptItems twin, int numbers) {
        String got = answers(x, numbers);
        String want = answers(twin, numbers);
        looked++;
        if (!got.equals(want)) {
            tellWrong(when + ": answers are " + got + ", due are " + want);
        }
    }

    private static String answers(KeptItems x, int numbers) {
        StringBuilder all = new StringBuilder();
        int length = x.length();
        int tokens = x.tokens();
        int items = x.items();
        all.append(length).append(' ').append(tokens).append(' ').append(items);
        all.append(" fault ").append(x.fault()).append(" kept ").append(x.kept()).append(" at");
        for (int i = -1; i <= length; i++) {
            all.append(' ').append((int) x.at(i));
        }
        all.append(" token");
        for (int k = -1; k <= tokens; k++) {
            all.append(' ').append(said(token(x, k)));
        }
        for (int k = -1; k <= items; k++) {
            all.append(" item ").append(x.number(k)).append(' ').append(x.level(k)).append(' ').append(said(begin(x, k)));
            all.append(' ').append(said(end(x, k))).append(' ').append(said(value(x, k)));
        }
        all.append(" which");
        for (int number = -1; number <= numbers; number++) {
            all.append(' ').append(x.which(number));
        }
        return all.toString();
    }

    static void dueNumbers(String when, KeptItems x, int... numbers) {
        due(when + ": items()", x.items(), numbers.length);
        for (int k = 0; k < numbers.length; k++) {
            due(when + ": number(" + k + ")", x.number(k), numbers[k]);
            due(when + ": which(" + numbers[k] + ")", x.which(numbers[k]), k);
        }
        due(when + ": number behind the last", x.number(numbers.length), KeptItems.NONE);
    }
}
