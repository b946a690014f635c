import java.util.ArrayList;
import java.util.HashMap;
import java.util.List;
import java.util.Map;

/**
 * Texts of laws, by splitting: a text is cut at the signs that stand outside brackets, loosest first. A fault is found
 * by trying: a beginning is good if some end makes a text of it.
 */
final class ModelLaw {
    private static final Map<String, Integer> FAULTS = new HashMap<>();

    private ModelLaw() {
    }

    /** The place of the fault, or -1. */
    static int fault(String text) {
        return FAULTS.computeIfAbsent(text, ModelLaw::findFault);
    }

    private static int findFault(String text) {
        for (int k = 1; k <= text.length(); k++) {
            if (!canGoOn(text.substring(0, k))) {
                return k - 1;
            }
        }
        return isText(text) ? -1 : text.length();
    }

    private static boolean canGoOn(String start) {
        for (int closed = 0; closed <= 6; closed++) {
            if (isText(start + ")".repeat(closed)) || isText(start + "p" + ")".repeat(closed))) {
                return true;
            }
        }
        return false;
    }

    private static boolean isText(String text) {
        for (String line : cut(text, ";")) {
            List<String> parts = cut(line, "?");
            if (parts.size() > 2 || !is(parts.get(0), 0, 0) || !is(parts.get(parts.size() - 1), 0, 0)) {
                return false;
            }
        }
        return true;
    }

    private static final String[] SIGNS = {"|", "&", "<=>", "+-", "*/%"};

    private static boolean is(String text, int level, int open) {
        if (level == 5) {
            return isOperand(text, open);
        }
        List<String> parts = cut(text, SIGNS[level]);
        if (level == 2 && parts.size() > 2) {
            return false;
        }
        return parts.stream().allMatch(part -> is(part, level + 1, open));
    }

    private static boolean isOperand(String text, int open) {
        if (text.matches("[0-9]{1,4}|[plnh]")) {
            return true;
        }
        if (open == 6 || text.isEmpty()) {
            return false;
        }
        char first = text.charAt(0);
        if (first == '!' || first == '-') {
            return isOperand(text.substring(1), open + 1);
        }
        return first == '(' && text.length() > 1 && text.endsWith(")") && closes(text) == text.length() - 1
            && is(text.substring(1, text.length() - 1), 0, open + 1);
    }

    /** Where the bracket at the beginning is closed. */
    private static int closes(String text) {
        int depth = 0;
        for (int k = 0; k < text.length(); k++) {
            depth += text.charAt(k) == '(' ? 1 : text.charAt(k) == ')' ? -1 : 0;
            if (depth == 0) {
                return k;
            }
        }
        return -1;
    }

    /** Parts of a text between signs outside brackets; a minus behind a sign, or ahead of all, parts nothing. */
    private static List<String> cut(String text, String signs) {
        List<String> parts = new ArrayList<>();
        int depth = 0;
        int from = 0;
        for (int k = 0; k < text.length(); k++) {
            char c = text.charAt(k);
            depth += c == '(' ? 1 : c == ')' ? -1 : 0;
            boolean sign = signs.indexOf(c) >= 0 && depth == 0
                && !(c == '-' && (k == 0 || ";?|&<=>+-*/%!(".indexOf(text.charAt(k - 1)) >= 0));
            if (sign) {
                parts.add(text.substring(from, k));
                from = k + 1;
            }
        }
        parts.add(text.substring(from));
        return parts;
    }

    static int value(String text, int p, int n) {
        for (String line : cut(text, ";")) {
            List<String> parts = cut(line, "?");
            if (parts.size() == 1 || of(parts.get(0), 0, p, n) != 0) {
                return of(parts.get(parts.size() - 1), 0, p, n);
            }
        }
        return 0;
    }

    private static int of(String text, int level, int p, int n) {
        if (level == 5) {
            return ofOperand(text, p, n);
        }
        List<String> parts = cut(text, SIGNS[level]);
        int value = of(parts.get(0), level + 1, p, n);
        int at = parts.get(0).length();
        for (String part : parts.subList(1, parts.size())) {
            value = joined(text.charAt(at), value, of(part, level + 1, p, n));
            at += part.length() + 1;
        }
        return value;
    }

    private static int joined(char sign, int a, int b) {
        switch (sign) {
            case '|': return a != 0 | b != 0 ? 1 : 0;
            case '&': return a != 0 & b != 0 ? 1 : 0;
            case '<': return a < b ? 1 : 0;
            case '=': return a == b ? 1 : 0;
            case '>': return a > b ? 1 : 0;
            case '+': return a + b;
            case '-': return a - b;
            case '*': return a * b;
            case '/': return b == 0 ? 0 : a / b;
            default: return b == 0 ? 0 : a % b;
        }
    }

    private static int ofOperand(String text, int p, int n) {
        char first = text.charAt(0);
        switch (first) {
            case 'p': return p;
            case 'l': return Integer.bitCount(p);
            case 'n': return n;
            case 'h': return 32 - Integer.numberOfLeadingZeros(p);
            case '!': return ofOperand(text.substring(1), p, n) == 0 ? 1 : 0;
            case '-': return -ofOperand(text.substring(1), p, n);
            case '(': return of(text.substring(1, text.length() - 1), 0, p, n);
            default: return Integer.parseInt(text);
        }
    }
}
