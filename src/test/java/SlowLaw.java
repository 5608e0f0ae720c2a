import java.util.HashMap;
import java.util.Map;

/** The law's text by its grammar alone: a piece is a kind of thing if it can be cut as the grammar says. */
final class SlowLaw {
    /** What the names are worth: c g d h n k. */
    private final int[] names;
    private final String text;
    private final Map<Integer, Integer> known = new HashMap<>();

    private SlowLaw(String text, int[] names) {
        this.text = text;
        this.names = names;
    }

    /** The text's worth; null if it is none. */
    static Integer worth(String text, int[] names) {
        String[] lines = text.split(";", -1);
        Integer found = null;
        for (String line : lines) {
            SlowLaw law = new SlowLaw(line, names);
            int cut = line.indexOf('?');
            Integer first = law.part(0, cut < 0 ? line.length() : cut, 0, 0);
            Integer second = cut < 0 ? first : law.part(cut + 1, line.length(), 0, 0);
            if (first == null || second == null) {
                return null;
            }
            if (found == null && (cut < 0 || first != 0)) {
                found = second;
            }
        }
        return found == null ? 0 : found;
    }

    /** The first place from which on no text goes on; -1: it is a text. */
    static int fault(String text) {
        int[] none = new int[6];
        if (worth(text, none) != null) {
            return -1;
        }
        for (int place = 0; place < text.length(); place++) {
            if (!goesOn(text.substring(0, place + 1), none)) {
                return place;
            }
        }
        return text.length();
    }

    private static boolean goesOn(String begun, int[] none) {
        for (String tail : new String[] {"", "1"}) {
            for (int closed = 0; closed <= 6; closed++) {
                if (worth(begun + tail + ")".repeat(closed), none) != null) {
                    return true;
                }
            }
        }
        return false;
    }

    private Integer part(int from, int to, int level, int open) {
        if (from >= to) {
            return null;
        }
        int key = ((from * 200 + to) * 6 + level) * 8 + open;
        if (!known.containsKey(key)) {
            known.put(key, level == 5 ? one(from, to, open) : cut(from, to, level, open));
        }
        return known.get(key);
    }

    private static final String[] SIGNS = {"|", "&", "<=>", "+-", "*/%"};

    private Integer cut(int from, int to, int level, int open) {
        for (int at = to - 1; at > from; at--) {
            if (SIGNS[level].indexOf(text.charAt(at)) < 0) {
                continue;
            }
            Integer left = part(from, at, level == 2 ? 3 : level, open);
            Integer right = part(at + 1, to, level + 1, open);
            if (left != null && right != null) {
                return join(text.charAt(at), left, right);
            }
        }
        return part(from, to, level + 1, open);
    }

    private Integer one(int from, int to, int open) {
        String piece = text.substring(from, to);
        if (piece.matches("[0-9]{1,4}")) {
            return Integer.parseInt(piece);
        }
        if (piece.length() == 1 && "cgdhnk".contains(piece)) {
            return names["cgdhnk".indexOf(piece)];
        }
        if (open == 6 || piece.length() < 2) {
            return null;
        }
        char first = piece.charAt(0);
        if (first == '(') {
            return piece.endsWith(")") ? part(from + 1, to - 1, 0, open + 1) : null;
        }
        if (first != '!' && first != '-') {
            return null;
        }
        Integer of = part(from + 1, to, 5, open + 1);
        return of == null ? null : first == '-' ? Integer.valueOf(-of) : Integer.valueOf(of == 0 ? 1 : 0);
    }

    private static int join(char sign, int a, int b) {
        switch (sign) {
            case '|': return (a != 0 | b != 0) ? 1 : 0;
            case '&': return (a != 0 & b != 0) ? 1 : 0;
            case '<': return a < b ? 1 : 0;
            case '=': return a == b ? 1 : 0;
            case '>': return a > b ? 1 : 0;
            case '+': return a + b;
            case '-': return a - b;
            case '*': return a * b;
            case '/': return b == 0 ? 0 : (int) ((long) a / b);
            default: return b == 0 ? 0 : (int) ((long) a % b);
        }
    }
}
