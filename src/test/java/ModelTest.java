import java.util.Random;

/** All promises: long runs of calls, made with a fixed seed, of the class and of the model side by side. */
public final class ModelTest {
    private static final int RUNS = 1500;
    private static final int DEEP_RUNS = 3000;
    private static final int MOST_CALLS = 512;
    private static final String[] PIECES = {
        "a=1;", "b=a;", "a=a+b*2;", "f(a,b);", "{}", "{a=b;}", "ab=\"x\";", "c=-(a-1);", "g();", "d=f(g(),1)-ab;",
        "{{b=3;}}", "{", "}", "(", ")", "-", "+1", "*b", ",2", "=", ";", "a", "bb", "12", "\"", "#", "\n", " ",
        "\"q\"", "$", "# c\n", "((", "))", "--", "{{{{", "}}}}", "-----", "((((((", "99999999999",
    };
    private static final String[] OPENINGS = {"-", "(", "g(", "1-", "-(", "(1)*-"};

    private final Random random;
    private final KeptItems x = new KeptItems();
    private final Model model = new Model();
    private final StringBuilder told = new StringBuilder();
    private int calls = 0;

    private ModelTest(long seed) {
        random = new Random(seed);
    }

    public static void main(String[] args) {
        for (int run = 0; run < RUNS; run++) {
            new ModelTest(run).run();
        }
        for (int run = 0; run < DEEP_RUNS; run++) {
            new ModelTest(run).runDeep();
        }
        Check.finish("ModelTest");
    }

    private void run() {
        while (calls + 120 < MOST_CALLS) {
            typeRow();
            if (random.nextInt(12) == 0) {
                wrongEdit();
            }
            edit();
            look();
        }
    }

    /** Runs as above hardly ever come near the greatest depth. */
    private void runDeep() {
        String text = deepText();
        for (int from = 0; from < text.length(); from += 40) {
            type(text.substring(from, Math.min(from + 40, text.length())));
            edit(from, 0);
        }
        look();
    }

    /** Items in some {}, the last of them with a factor so deep that all in all it is about 12. */
    private String deepText() {
        int blocks = random.nextInt(random.nextInt(4) == 0 ? 14 : 4);
        StringBuilder text = new StringBuilder();
        for (int n = 0; n < blocks; n++) {
            text.append(random.nextInt(4) == 0 ? "a=-1;{" : "{");
        }
        StringBuilder closing = new StringBuilder(random.nextBoolean() ? ";" : ");");
        text.append(closing.length() == 1 ? "b=" : "f(");
        int deep = 10 + random.nextInt(5);
        for (int n = blocks; n < deep; n++) {
            String opening = OPENINGS[random.nextInt(OPENINGS.length)];
            text.append(opening);
            if (opening.endsWith("(")) {
                closing.insert(0, random.nextInt(5) == 0 ? ")*-(3)" : ")");
            }
        }
        text.append('2').append(closing).append("}".repeat(blocks)).append("c=b;");
        return text.substring(0, Math.min(160, text.length()));
    }

    private void due(String call, long got, long want) {
        calls++;
        Check.due(got == want ? call : told + call, got, want);
    }

    private void typeRow() {
        int pieces = random.nextInt(4) == 0 ? 0 : 1 + random.nextInt(model.text.length() < 60 ? 8 : 2);
        for (int n = 0; n < pieces; n++) {
            // The first eleven are whole items: with more of them there is more to keep.
            String piece = PIECES[random.nextInt(random.nextInt(5) < 3 ? 11 : PIECES.length)];
            type(piece);
        }
        if (random.nextInt(20) == 0) {
            char c = (char) random.nextInt(140);
            due("type " + (int) c, x.type(c) ? 1 : 0, model.type(c) ? 1 : 0);
            told.append(c);
        }
        if (random.nextInt(30) == 0) {
            due("wipe", x.wipe(), model.row.length());
            told.append("<wipe>");
            model.row = "";
        }
    }

    private void type(String piece) {
        for (char c : piece.toCharArray()) {
            due("type", x.type(c) ? 1 : 0, model.type(c) ? 1 : 0);
            told.append(c);
        }
    }

    private void wrongEdit() {
        int at = random.nextInt(model.text.length() + 6) - 3;
        int gone = random.nextInt(2) == 0 ? model.text.length() - at + 1 : -1 - random.nextInt(3);
        due("edit(" + at + ", " + gone + ")", Check.edit(x, at, gone), model.edit(at, gone));
    }

    private void edit() {
        int length = model.text.length();
        int at = place(length);
        int gone = random.nextInt(3) == 0 ? 0 : Math.min(length - at, random.nextInt(random.nextInt(4) == 0 ? 60 : 6));
        edit(at, gone);
    }

    private void edit(int at, int gone) {
        told.append("<edit(").append(at).append(", ").append(gone).append(")>");
        due("edit", Check.edit(x, at, gone), model.edit(at, gone));
    }

    /** Often where an item begins or ends, so that others stay. */
    private int place(int length) {
        if (model.items.isEmpty() || random.nextInt(3) == 0) {
            return random.nextInt(length + 1);
        }
        Model.Item item = model.items.get(random.nextInt(model.items.size()));
        return random.nextBoolean() ? model.begin(item) : model.end(item);
    }

    private void look() {
        due("length", x.length(), model.text.length());
        due("tokens", x.tokens(), model.tokens.size());
        due("fault", x.fault(), model.fault);
        due("items", x.items(), model.items.size());
        due("kept", x.kept(), model.kept);
        for (int n = 0; n < 3; n++) {
            int i = random.nextInt(model.text.length() + 2) - 1;
            boolean there = i >= 0 && i < model.text.length();
            due("at(" + i + ")", x.at(i), there ? model.text.charAt(i) : 0);
            int k = random.nextInt(model.tokens.size() + 2) - 1;
            there = k >= 0 && k < model.tokens.size();
            due("token(" + k + ")", Check.token(x, k), there ? model.packed(k) : Check.INDEX);
        }
        for (int n = 0; n < 7; n++) {
            lookAtItem(random.nextInt(model.items.size() + 2) - 1);
        }
    }

    private void lookAtItem(int k) {
        boolean there = k >= 0 && k < model.items.size();
        Model.Item item = there ? model.items.get(k) : null;
        due("number(" + k + ")", x.number(k), there ? item.number : KeptItems.NONE);
        due("level(" + k + ")", x.level(k), there ? item.level : KeptItems.NONE);
        due("begin(" + k + ")", Check.begin(x, k), there ? model.begin(item) : Check.INDEX);
        due("end(" + k + ")", Check.end(x, k), there ? model.end(item) : Check.INDEX);
        due("value(" + k + ")", Check.value(x, k), there ? item.value : Check.INDEX);
        int number = there ? item.number : random.nextInt(60) - 2;
        due("which(" + number + ")", x.which(number), which(number));
    }

    private int which(int number) {
        for (int k = 0; k < model.items.size(); k++) {
            if (model.items.get(k).number == number) {
                return k;
            }
        }
        return KeptItems.NONE;
    }
}
