import java.util.ArrayList;
import java.util.Arrays;
import java.util.HashMap;
import java.util.HashSet;
import java.util.List;
import java.util.Map;
import java.util.Set;

/**
 * The document once more, close to its words and by other means than the class: the rules of items are a
 * table for a general recogniser, sums are cut at their signs, and what stays is looked up in maps.
 */
final class Model {
    private static final String[] RULES = {
        "R=", "R=IR", "I=n=S;", "I=n(L);", "I={R}", "S=T", "S=S+T", "S=S-T", "T=F", "T=T*F",
        "F=0", "F=s", "F=n", "F=n(L)", "F=(S)", "F=-F", "L=", "L=M", "M=S", "M=M,S",
    };

    String text = "";
    String row = "";
    List<int[]> tokens = new ArrayList<>();
    List<Item> items = new ArrayList<>();
    int fault = KeptItems.NONE;
    int kept = 0;
    private int given = 0;
    private String word = "";

    static final class Item {
        int first;
        int last;
        int level;
        int number;
        int value;
    }

    boolean type(char c) {
        if (c != 10 && (c < 32 || c > 126) || row.length() == 40) {
            return false;
        }
        row += c;
        return true;
    }

    long edit(int at, int gone) {
        if (at < 0 || at > text.length() || gone < 0 || (long) at + gone > text.length()) {
            return Check.INDEX;
        }
        String edited = text.substring(0, at) + row + text.substring(at + gone);
        if (edited.length() > 160) {
            return Check.STATE;
        }
        List<int[]> oldTokens = tokens;
        List<Item> oldItems = items;
        int shift = row.length() - gone;
        text = edited;
        row = "";
        tokens = tokensOf(text);
        read();
        Map<Integer, Integer> stays = stays(oldTokens, at, gone, shift);
        number(oldItems, stays);
        return tokens.size() - stays.size();
    }

    int packed(int k) {
        int[] t = tokens.get(k);
        return t[0] * 2048 + t[1] * 8 + t[2];
    }

    int begin(Item item) {
        return tokens.get(item.first)[0];
    }

    int end(Item item) {
        return tokens.get(item.last)[0] + tokens.get(item.last)[1];
    }

    private static List<int[]> tokensOf(String text) {
        List<int[]> found = new ArrayList<>();
        int i = 0;
        while (i < text.length()) {
            String rest = text.substring(i);
            char c = rest.charAt(0);
            int length = 1;
            int kind = KeptItems.BAD;
            if (c == ' ' || c == '\n') {
                i++;
                continue;
            } else if (c == '#') {
                i += (rest + "\n").indexOf('\n');
                continue;
            } else if (rest.matches("(?s)[a-z].*")) {
                length = rest.length() - rest.replaceFirst("^[a-z]+", "").length();
                kind = KeptItems.NAME;
            } else if (rest.matches("(?s)[0-9].*")) {
                length = rest.length() - rest.replaceFirst("^[0-9]+", "").length();
                kind = KeptItems.NUMBER;
            } else if (c == '"' && rest.indexOf('"', 1) > 0) {
                length = rest.indexOf('"', 1) + 1;
                kind = KeptItems.STRING;
            } else if (c == '"') {
                length = rest.length();
            } else if ("=;+-*(){},".indexOf(c) >= 0) {
                kind = KeptItems.SIGN;
            }
            found.add(new int[] {i, length, kind});
            i += length;
        }
        return found;
    }

    private String letters(int k) {
        return text.substring(tokens.get(k)[0], tokens.get(k)[0] + tokens.get(k)[1]);
    }

    /** A character for each token: n, 0, s, the sign itself, or ?. */
    private String wordOfTokens() {
        StringBuilder w = new StringBuilder();
        for (int k = 0; k < tokens.size(); k++) {
            int kind = tokens.get(k)[2];
            w.append(kind == KeptItems.SIGN ? letters(k).charAt(0) : "n0s.?".charAt(kind));
        }
        return w.toString();
    }

    private void read() {
        word = wordOfTokens();
        int stop = Math.min(viable(word), tooDeep(word));
        items = new ArrayList<>();
        int inTree = collect(stop);
        boolean good = stop == word.length() && inTree == word.length();
        fault = good ? KeptItems.NONE : stop < word.length() ? tokens.get(stop)[0] : text.length();
        for (Item item : items) {
            item.value = valueOf(item);
        }
    }

    /** How many tokens some row of items begins with (by Earley's way). */
    private static int viable(String word) {
        List<Set<String>> states = new ArrayList<>();
        Set<String> start = new HashSet<>(Arrays.asList("R=. 0", "R=.IR 0"));
        states.add(close(start, states, 0));
        for (int k = 0; k < word.length(); k++) {
            Set<String> moved = new HashSet<>();
            for (String s : states.get(k)) {
                int dot = s.indexOf('.');
                if (s.charAt(dot + 1) == word.charAt(k)) {
                    moved.add(step(s));
                }
            }
            if (moved.isEmpty()) {
                return k;
            }
            states.add(null);
            states.set(k + 1, close(moved, states, k + 1));
        }
        return word.length();
    }

    private static String step(String state) {
        int dot = state.indexOf('.');
        return state.substring(0, dot) + state.charAt(dot + 1) + "." + state.substring(dot + 2);
    }

    private static Set<String> close(Set<String> set, List<Set<String>> states, int k) {
        boolean more = true;
        while (more) {
            Set<String> found = new HashSet<>();
            for (String s : set) {
                char behind = s.charAt(s.indexOf('.') + 1);
                for (String rule : RULES) {
                    if (rule.charAt(0) == behind) {
                        found.add(rule.substring(0, 2) + "." + rule.substring(2) + " " + k);
                    }
                }
                if (behind == ' ') {
                    int from = Integer.parseInt(s.substring(s.indexOf(' ') + 1));
                    for (String old : from == k ? set : states.get(from)) {
                        if (old.charAt(old.indexOf('.') + 1) == s.charAt(0)) {
                            found.add(step(old));
                        }
                    }
                }
            }
            more = set.addAll(found);
        }
        return set;
    }

    /** The first {, ( or - before a factor with a depth of 12, if all before it can be read. */
    private static int tooDeep(String word) {
        StringBuilder open = new StringBuilder();
        for (int k = 0; k < word.length(); k++) {
            char c = word.charAt(k);
            boolean opens = c == '{' || c == '(' || c == '-' && k > 0 && "=+-*(,".indexOf(word.charAt(k - 1)) >= 0;
            if (opens) {
                if (open.length() == 12) {
                    return k;
                }
                open.append(c);
            }
            if ((c == '}' || c == ')') && open.length() > 0) {
                open.setLength(open.length() - 1);
            }
            boolean called = c == 'n' && k + 1 < word.length() && word.charAt(k + 1) == '(';
            if (c == '0' || c == 's' || c == ')' || c == 'n' && !called) {
                while (open.length() > 0 && open.charAt(open.length() - 1) == '-') {
                    open.setLength(open.length() - 1);
                }
            }
        }
        return word.length();
    }

    /** Gathers the items that are whole before a token; answers where the last of them is over. */
    private int collect(int stop) {
        int k = 0;
        while (k < stop) {
            int behind = behindItem(k, stop);
            if (behind < 0) {
                return k;
            }
            gather(k, behind, 0);
            k = behind;
        }
        return k;
    }

    private int behindItem(int k, int stop) {
        int open = 0;
        for (int i = k; i < stop; i++) {
            char c = word.charAt(i);
            open += c == '{' ? 1 : c == '}' ? -1 : 0;
            if (open == 0 && (c == ';' || c == '}')) {
                return i + 1;
            }
        }
        return -1;
    }

    private void gather(int k, int behind, int level) {
        Item item = new Item();
        item.first = k;
        item.last = behind - 1;
        item.level = level;
        items.add(item);
        if (word.charAt(k) == '{') {
            int inner = k + 1;
            while (inner < behind - 1) {
                int next = behindItem(inner, behind);
                gather(inner, next, level + 1);
                inner = next;
            }
        }
    }

    private int valueOf(Item item) {
        if (word.charAt(item.first) == '{') {
            int inside = 0;
            for (Item other : items) {
                if (other.first > item.first && other.last < item.last && other.level == item.level + 1) {
                    inside++;
                }
            }
            return inside;
        }
        int from = word.charAt(item.first + 1) == '=' ? item.first + 2 : item.first;
        return sum(from, item.last, item);
    }

    /** The last token from .. to - 1, outside of all (), that is one of two signs between two operands. */
    private int lastSign(int from, int to, String signs) {
        int open = 0;
        for (int i = to - 1; i > from; i--) {
            char c = word.charAt(i);
            open += c == ')' ? 1 : c == '(' ? -1 : 0;
            if (open == 0 && signs.indexOf(c) >= 0 && "n0s)".indexOf(word.charAt(i - 1)) >= 0) {
                return i;
            }
        }
        return -1;
    }

    private int sum(int from, int to, Item item) {
        int sign = lastSign(from, to, "+-");
        if (sign > 0) {
            int left = sum(from, sign, item);
            int right = sum(sign + 1, to, item);
            return word.charAt(sign) == '+' ? left + right : left - right;
        }
        sign = lastSign(from, to, "*");
        if (sign > 0) {
            return sum(from, sign, item) * sum(sign + 1, to, item);
        }
        switch (word.charAt(from)) {
            case '-':
                return -sum(from + 1, to, item);
            case '(':
                return sum(from + 1, to - 1, item);
            case '0':
                return new java.math.BigInteger(letters(from)).intValue();
            case 's':
                return letters(from).length() - 2;
            default:
                return to == from + 1 ? named(letters(from), item) : list(from, to, item);
        }
    }

    private int list(int name, int to, Item item) {
        int result = letters(name).length();
        int from = name + 2;
        int open = 0;
        for (int i = from; i < to; i++) {
            char c = word.charAt(i);
            boolean over = open == 0 && c == ',' || i == to - 1 && i > name + 2;
            if (over) {
                result = result * 31 + sum(from, i, item);
                from = i + 1;
            }
            open += c == '(' ? 1 : c == ')' ? -1 : 0;
        }
        return result;
    }

    private int named(String name, Item item) {
        int result = 0;
        for (Item other : items) {
            boolean gives = word.charAt(other.first) == 'n' && word.charAt(other.first + 1) == '=';
            if (gives && other.first < item.first && letters(other.first).equals(name)) {
                result = other.value;
            }
        }
        return result;
    }

    private Map<Integer, Integer> stays(List<int[]> old, int at, int gone, int shift) {
        Map<String, Integer> newOnes = new HashMap<>();
        for (int k = 0; k < tokens.size(); k++) {
            newOnes.put(Arrays.toString(tokens.get(k)), k);
        }
        Map<Integer, Integer> stays = new HashMap<>();
        for (int k = 0; k < old.size(); k++) {
            int[] t = old.get(k).clone();
            boolean before = t[0] + t[1] <= at;
            boolean behind = t[0] >= at + gone;
            t[0] += behind ? shift : 0;
            Integer same = newOnes.get(Arrays.toString(t));
            if ((before || behind) && same != null) {
                stays.put(k, same);
            }
        }
        return stays;
    }

    private void number(List<Item> old, Map<Integer, Integer> stays) {
        Map<Set<Integer>, Integer> numbers = new HashMap<>();
        for (Item item : old) {
            Set<Integer> its = new HashSet<>();
            for (int k = item.first; k <= item.last; k++) {
                its.add(stays.getOrDefault(k, KeptItems.NONE));
            }
            if (!its.contains(KeptItems.NONE)) {
                numbers.put(its, item.number);
            }
        }
        kept = 0;
        for (Item item : items) {
            Set<Integer> its = new HashSet<>();
            for (int k = item.first; k <= item.last; k++) {
                its.add(k);
            }
            Integer number = numbers.get(its);
            item.number = number == null ? given++ : number;
            kept += number == null ? 0 : 1;
        }
    }
}
