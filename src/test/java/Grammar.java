import java.util.ArrayList;
import java.util.List;
import java.util.Set;
import java.util.TreeSet;

/**
 * The FAULT by the words of the document: all ways in which a square could go on are kept side by side, sign by sign.
 * A way is the list of what has yet to come: signs, and parts, which are told by letters above 127.
 */
final class Grammar {
    private static final char CLAUSES = 200, NUMBER = 220, TEST = 221, DIGIT = 222, LETTER = 223, RELATION = 224;
    // These have the depth added: E, T, F from 0 to 4.
    private static final char EITHER = 230, BOTH = 240, PART = 250;

    private Grammar() {
    }

    /** The place of the first sign with which none begins so, or -1 if the text is a square. */
    static int fault(String text) {
        Set<String> ways = new TreeSet<>();
        ways.add("" + (char) (CLAUSES + 10));
        for (int i = 0; i < text.length(); i++) {
            Set<String> next = new TreeSet<>();
            for (String way : ways) {
                for (String open : opened(way)) {
                    if (!open.isEmpty() && takes(open.charAt(0), text.charAt(i))) next.add(open.substring(1));
                }
            }
            if (next.isEmpty()) return i;
            ways = next;
        }
        return ways.contains("") ? -1 : text.length();
    }

    private static boolean takes(char due, char sign) {
        if (due == DIGIT) return sign >= '0' && sign <= '9';
        if (due == LETTER) return "bkvmsf".indexOf(sign) >= 0;
        if (due == RELATION) return "<=>".indexOf(sign) >= 0;
        return due == sign;
    }

    /** The same way with a sign ahead, in all forms that it can have. */
    private static List<String> opened(String way) {
        List<String> out = new ArrayList<>();
        List<String> todo = new ArrayList<>();
        todo.add(way);
        while (!todo.isEmpty()) {
            String one = todo.remove(todo.size() - 1);
            List<String> forms = one.isEmpty() ? null : forms(one.charAt(0));
            if (forms == null) {
                out.add(one);
            } else {
                for (String form : forms) todo.add(form + one.substring(1));
            }
        }
        return out;
    }

    private static List<String> forms(char part) {
        if (part > CLAUSES && part <= CLAUSES + 10) return clauses(part - CLAUSES);
        if (part == NUMBER) return List.of("" + DIGIT, "" + DIGIT + DIGIT);
        if (part == TEST) return List.of("" + LETTER + RELATION + NUMBER);
        if (part >= EITHER && part < EITHER + 5) {
            char both = (char) (BOTH + part - EITHER);
            return List.of("" + both, both + "|" + part);
        }
        if (part >= BOTH && part < BOTH + 5) {
            char single = (char) (PART + part - BOTH);
            return List.of("" + single, single + "&" + part);
        }
        if (part >= PART && part < PART + 4) {
            char inner = (char) (part + 1);
            char either = (char) (EITHER + part - PART + 1);
            return List.of("" + TEST, "!" + inner, "(" + either + ")");
        }
        return part == PART + 4 ? List.of("" + TEST) : null;
    }

    private static List<String> clauses(int left) {
        List<String> out = new ArrayList<>();
        for (String word : new String[] {"wind", "dry", "coin"}) {
            String clause = word + " " + NUMBER + " " + EITHER;
            out.add(clause);
            if (left > 1) out.add(clause + ";" + (char) (CLAUSES + left - 1));
        }
        return out;
    }
}
