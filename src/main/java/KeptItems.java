import java.util.Arrays;

/**
 * A text in a small language that is edited and read anew after every edit, so that what the edit
 * does not concern stays the same: tokens, and items with their numbers.
 */
public final class KeptItems {
    public static final int NONE = -1;
    public static final int NAME = 0;
    public static final int NUMBER = 1;
    public static final int STRING = 2;
    public static final int SIGN = 3;
    public static final int BAD = 4;

    private static final int MOST_CHARS = 160;
    private static final int MOST_ROW = 40;
    private static final int MOST_DEPTH = 12;
    private static final int PLACE_UNIT = 2048;
    private static final int LENGTH_UNIT = 8;
    private static final String SIGNS = "=;+-*(){},";
    private static final char NAME_MARK = 'a';
    private static final char NUMBER_MARK = '0';
    private static final char STRING_MARK = '"';
    private static final char BAD_MARK = '?';

    private final char[] row;
    private int rowSize;
    // The two change places at every edit, so that no edit makes an object.
    private Reading now;
    private Reading before;
    // For each token of now the token of before that stayed as it, or NONE.
    private final int[] origins;
    private int keptItems;
    private int numbersGiven;

    public KeptItems() {
        row = new char[MOST_ROW];
        now = new Reading();
        before = new Reading();
        origins = new int[MOST_CHARS];
    }

    public boolean type(char c) {
        boolean fits = c == '\n' || c >= 32 && c <= 126;
        if (!fits || rowSize >= MOST_ROW) {
            return false;
        }
        row[rowSize] = c;
        rowSize++;
        return true;
    }

    public int wipe() {
        int had = rowSize;
        rowSize = 0;
        return had;
    }

    public int edit(int at, int gone) throws IndexOutOfBoundsException, IllegalStateException {
        int size = now.source.size;
        // Not at + gone > size: that sum could wrap.
        if (at < 0 || at > size || gone < 0 || gone > size - at) {
            throw new IndexOutOfBoundsException();
        }
        if (size - gone + rowSize > MOST_CHARS) {
            throw new IllegalStateException();
        }
        Reading old = now;
        now = before;
        before = old;
        now.source.fill(old.source, at, gone, row, rowSize);
        now.source.findTokens();
        now.readTokens();
        int stayed = traceTokens(at, gone);
        numberItems();
        rowSize = 0;
        return now.source.count - stayed;
    }

    public int length() {
        return now.source.size;
    }

    public char at(int i) {
        return i >= 0 && i < now.source.size ? now.source.chars[i] : 0;
    }

    public int tokens() {
        return now.source.count;
    }

    public int token(int k) throws IndexOutOfBoundsException {
        if (k < 0 || k >= now.source.count) {
            throw new IndexOutOfBoundsException();
        }
        return now.source.found[k];
    }

    public int fault() {
        return now.faultPlace();
    }

    public int items() {
        return now.tree.count;
    }

    public int kept() {
        return keptItems;
    }

    public int number(int k) {
        return now.tree.has(k) ? now.tree.numbers[k] : NONE;
    }

    public int which(int number) {
        return now.tree.itemNumbered(number);
    }

    public int begin(int k) throws IndexOutOfBoundsException {
        if (!now.tree.has(k)) {
            throw new IndexOutOfBoundsException();
        }
        return now.source.placeOf(now.tree.firsts[k]);
    }

    public int end(int k) throws IndexOutOfBoundsException {
        if (!now.tree.has(k)) {
            throw new IndexOutOfBoundsException();
        }
        return now.source.placeBehind(now.tree.lasts[k]);
    }

    public int level(int k) {
        return now.tree.has(k) ? now.tree.levels[k] : NONE;
    }

    public int value(int k) throws IndexOutOfBoundsException {
        if (!now.tree.has(k)) {
            throw new IndexOutOfBoundsException();
        }
        return now.tree.values[k];
    }

    /** Finds out which old token each new one was; answers how many stayed. */
    private int traceTokens(int at, int gone) {
        Source source = now.source;
        int stayed = 0;
        int k = 0;
        Arrays.fill(origins, NONE);
        for (int i = 0; i < before.source.count; i++) {
            int due = before.source.movedToken(i, at, gone, rowSize);
            // Tokens are in the order of their places on both sides, so k never goes back.
            while (k < source.count && source.found[k] < due) {
                k++;
            }
            if (k < source.count && source.found[k] == due) {
                origins[k] = i;
                stayed++;
            }
        }
        return stayed;
    }

    private void numberItems() {
        keptItems = 0;
        for (int k = 0; k < now.tree.count; k++) {
            int old = oldItem(k);
            if (old == NONE) {
                now.tree.numbers[k] = numbersGiven;
                numbersGiven++;
            } else {
                now.tree.numbers[k] = before.tree.numbers[old];
                keptItems++;
            }
        }
    }

    /** Which item of the old tree stayed as item k of the new one. */
    private int oldItem(int k) {
        int first = now.tree.firsts[k];
        int last = now.tree.lasts[k];
        int oldFirst = origins[first];
        if (oldFirst == NONE) {
            return NONE;
        }
        for (int i = first + 1; i <= last; i++) {
            // A gap on either side means that the old item had a token more, or less.
            if (origins[i] - oldFirst != i - first) {
                return NONE;
            }
        }
        return before.tree.itemOfTokens(oldFirst, origins[last]);
    }

    /** A text and the tokens that are found in it. */
    private static final class Source {
        final char[] chars = new char[MOST_CHARS];
        int size;
        // Held as token() answers them; so they are ordered by their places.
        final int[] found = new int[MOST_CHARS];
        // All that reading has to know of a token: a sign is its own mark, any other kind has one.
        final char[] marks = new char[MOST_CHARS];
        int count;

        /** Takes over another text, with the row in place of a stretch of it. */
        void fill(Source old, int place, int gone, char[] row, int rowSize) {
            int behind = place + gone;
            System.arraycopy(old.chars, 0, chars, 0, place);
            System.arraycopy(row, 0, chars, place, rowSize);
            System.arraycopy(old.chars, behind, chars, place + rowSize, old.size - behind);
            size = old.size - gone + rowSize;
        }

        void findTokens() {
            count = 0;
            int place = passBlanks(0);
            while (place < size && count < MOST_CHARS) {
                found[count] = tokenFrom(place);
                marks[count] = markOf(found[count] % LENGTH_UNIT, chars[place]);
                place = passBlanks(placeBehind(count));
                count++;
            }
        }

        private int passBlanks(int from) {
            boolean comment = false;
            for (int place = from; place < size; place++) {
                char c = chars[place];
                if (c == '\n') {
                    comment = false;
                } else if (c == '#') {
                    comment = true;
                } else if (c != ' ' && !comment) {
                    return place;
                }
            }
            return size;
        }

        private int tokenFrom(int place) {
            char c = chars[place];
            if (c == '"') {
                return quotedFrom(place);
            }
            if (isLetter(c)) {
                return packed(place, behindRun(place, true), NAME);
            }
            if (isDigit(c)) {
                return packed(place, behindRun(place, false), NUMBER);
            }
            return packed(place, place + 1, SIGNS.indexOf(c) >= 0 ? SIGN : BAD);
        }

        private static char markOf(int kind, char first) {
            switch (kind) {
                case NAME:
                    return NAME_MARK;
                case NUMBER:
                    return NUMBER_MARK;
                case STRING:
                    return STRING_MARK;
                case SIGN:
                    return first;
                default:
                    return BAD_MARK;
            }
        }

        private int quotedFrom(int place) {
            for (int i = place + 1; i < size; i++) {
                if (chars[i] == '"') {
                    return packed(place, i + 1, STRING);
                }
            }
            return packed(place, size, BAD);
        }

        private int behindRun(int place, boolean ofLetters) {
            int i = place;
            while (i < size && (ofLetters ? isLetter(chars[i]) : isDigit(chars[i]))) {
                i++;
            }
            return i;
        }

        private static boolean isLetter(char c) {
            return c >= 'a' && c <= 'z';
        }

        private static boolean isDigit(char c) {
            return c >= '0' && c <= '9';
        }

        private static int packed(int place, int behind, int kind) {
            return place * PLACE_UNIT + (behind - place) * LENGTH_UNIT + kind;
        }

        int placeOf(int k) {
            return found[k] / PLACE_UNIT;
        }

        int lengthOf(int k) {
            return found[k] % PLACE_UNIT / LENGTH_UNIT;
        }

        int placeBehind(int k) {
            return placeOf(k) + lengthOf(k);
        }

        /** What token k has to be after the edit in order to stay; NONE if the edit touches it. */
        int movedToken(int k, int place, int gone, int rowSize) {
            if (placeBehind(k) <= place) {
                return found[k];
            }
            if (placeOf(k) >= place + gone) {
                return found[k] + (rowSize - gone) * PLACE_UNIT;
            }
            return NONE;
        }

        boolean areSame(int k, int other) {
            int lengthAndKind = found[k] % PLACE_UNIT;
            if (lengthAndKind != found[other] % PLACE_UNIT) {
                return false;
            }
            int place = found[k] / PLACE_UNIT;
            int otherPlace = found[other] / PLACE_UNIT;
            for (int i = 0; i < lengthAndKind / LENGTH_UNIT; i++) {
                if (chars[place + i] != chars[otherPlace + i]) {
                    return false;
                }
            }
            return true;
        }

        int digitsValue(int k) {
            int sum = 0;
            int place = placeOf(k);
            int length = lengthOf(k);
            for (int i = 0; i < length; i++) {
                sum = 10 * sum + (chars[place + i] - '0');
            }
            return sum;
        }
    }

    /** Items in the order in which they begin, each known by its first and its last token. */
    private static final class Tree {
        // Every item that has begun has a first token of its own, so there are never more.
        final int[] firsts = new int[MOST_CHARS];
        final int[] lasts = new int[MOST_CHARS];
        final int[] levels = new int[MOST_CHARS];
        final int[] values = new int[MOST_CHARS];
        final int[] numbers = new int[MOST_CHARS];
        int count;

        boolean has(int k) {
            return k >= 0 && k < count;
        }

        int itemOfTokens(int first, int last) {
            for (int k = 0; k < count; k++) {
                if (firsts[k] == first && lasts[k] == last) {
                    return k;
                }
            }
            return NONE;
        }

        int itemNumbered(int number) {
            for (int k = 0; k < count; k++) {
                if (numbers[k] == number) {
                    return k;
                }
            }
            return NONE;
        }
    }

    /**
     * A source and the tree that reading makes of it. Once reading has stopped no mark is seen any more,
     * so that every method below comes to its end without reading on.
     */
    private static final class Reading {
        final Source source = new Source();
        final Tree tree = new Tree();
        private int next;
        private boolean stopped;

        void readTokens() {
            next = 0;
            stopped = false;
            tree.count = 0;
            for (int n = 0; n < MOST_CHARS && next < source.count && !stopped; n++) {
                int whole = tree.count;
                readItem(0);
                if (stopped) {
                    // What is inside an item that isn't whole goes with it.
                    tree.count = whole;
                }
            }
        }

        int faultPlace() {
            if (!stopped) {
                return NONE;
            }
            return next < source.count ? source.placeOf(next) : source.size;
        }

        private boolean sees(char mark) {
            return !stopped && next < source.count && source.marks[next] == mark;
        }

        private boolean takes(char mark) {
            boolean seen = sees(mark);
            if (seen) {
                next++;
            }
            return seen;
        }

        private void needs(char mark) {
            if (sees(mark)) {
                next++;
            } else {
                stopped = true;
            }
        }

        /** Takes a sign whose own part is one deeper, or stops before it where that is too deep. */
        private boolean opens(char sign, int depth) {
            boolean seen = sees(sign);
            if (seen && depth >= MOST_DEPTH) {
                stopped = true;
            } else if (seen) {
                next++;
            }
            return seen && !stopped;
        }

        // Only {} are round an item, so its depth is its level too.
        private void readItem(int depth) {
            if (next >= source.count || tree.count >= MOST_CHARS) {
                stopped = true;
                return;
            }
            int k = tree.count;
            int first = next;
            tree.count++;
            tree.firsts[k] = first;
            tree.levels[k] = depth;
            if (sees('{')) {
                tree.values[k] = readBlock(depth);
            } else {
                needs(NAME_MARK);
                tree.values[k] = takes('=') ? readSum(depth) : readCall(first, depth);
                needs(';');
            }
            tree.lasts[k] = next - 1;
        }

        private int readBlock(int depth) {
            int inside = 0;
            if (opens('{', depth)) {
                while (inside < MOST_CHARS && !stopped && !sees('}')) {
                    readItem(depth + 1);
                    inside++;
                }
                needs('}');
            }
            return inside;
        }

        /** Reads a sum with its terms; a term that is taken away is held with its sign turned. */
        private int readSum(int depth) {
            int sum = 0;
            int term = readFactor(depth);
            for (int n = 0; n < MOST_CHARS && !stopped; n++) {
                if (takes('*')) {
                    term *= readFactor(depth);
                } else if (takes('+')) {
                    sum += term;
                    term = readFactor(depth);
                } else if (takes('-')) {
                    sum += term;
                    term = 0 - readFactor(depth);
                } else {
                    break;
                }
            }
            return sum + term;
        }

        private int readFactor(int depth) {
            int token = next;
            if (takes(NUMBER_MARK)) {
                return source.digitsValue(token);
            }
            if (takes(STRING_MARK)) {
                return source.lengthOf(token) - 2;
            }
            if (takes(NAME_MARK)) {
                return sees('(') ? readCall(token, depth) : namedValue(token);
            }
            if (opens('-', depth)) {
                return 0 - readFactor(depth + 1);
            }
            if (opens('(', depth)) {
                int inside = readSum(depth + 1);
                needs(')');
                return inside;
            }
            stopped = true;
            return 0;
        }

        /** Reads the ( list ) behind a name. */
        private int readCall(int name, int depth) {
            int result = source.lengthOf(name);
            if (!opens('(', depth)) {
                stopped = true;
                return 0;
            }
            if (takes(')')) {
                return result;
            }
            result = 31 * result + readSum(depth + 1);
            for (int n = 0; n < MOST_CHARS && takes(','); n++) {
                result = 31 * result + readSum(depth + 1);
            }
            needs(')');
            return result;
        }

        private int namedValue(int name) {
            // The item in which the name stands is the last that has begun.
            for (int k = tree.count - 2; k >= 0; k--) {
                int first = tree.firsts[k];
                boolean gives = first + 1 < source.count && source.marks[first + 1] == '=';
                if (gives && source.areSame(first, name)) {
                    return tree.values[k];
                }
            }
            return 0;
        }
    }
}
