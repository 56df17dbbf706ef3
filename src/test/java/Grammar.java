import java.util.ArrayList;
import java.util.List;
import java.util.regex.Matcher;
import java.util.regex.Pattern;

/** The text's grammar once more, by patterns of words, for the program's faults to be held against. */
final class Grammar {
    private static final Pattern TOKEN = Pattern.compile("[ \n]*([a-z]+|[0-9]+|.)", Pattern.DOTALL);

    private final List<String> tokens = new ArrayList<>();
    private final List<Integer> places = new ArrayList<>();
    private int roofs = 0;
    private int crosses = 0;
    private int letters = 0;
    private boolean gusty = false;

    private Grammar() {
    }

    /** The fault and its place: 0 and -1 without. */
    static int[] fault(String text) {
        Grammar g = new Grammar();
        Matcher m = TOKEN.matcher(text);
        while (m.find()) {
            if (m.group(1).matches("[ \n]")) {
                break;
            }
            g.tokens.add(m.group(1));
            g.places.add(m.start(1));
        }
        g.tokens.add("");
        g.places.add(text.length());
        int from = 0;
        while (!g.tokens.get(from).isEmpty()) {
            int to = from;
            while (!g.tokens.get(to).isEmpty() && !g.tokens.get(to).equals(";")) {
                to++;
            }
            int[] found = g.line(from, to, from == 0);
            if (found != null) {
                return found;
            }
            from = to + 1;
        }
        return new int[] {0, -1};
    }

    /** Each token held against what is due there, the token behind the line too. */
    private int[] line(int from, int to, boolean first) {
        List<String> due = new ArrayList<>();
        String word = tokens.get(from);
        if (first != word.equals("roofs")) {
            return at(1, from);
        }
        if (word.equals("cross") && crosses++ == 6 || word.equals("letter") && letters++ == 8) {
            return at(3, from);
        }
        if (word.equals("gusts") && gusty) {
            return at(2, from);
        }
        gusty |= word.equals("gusts");
        switch (word) {
            case "roofs": due.addAll(List.of("roofs", "1-6")); break;
            case "thrower": due.addAll(List.of("thrower", "R", "plain|left|slow|blind|learner")); break;
            case "cross": due.addAll(List.of("cross", "R", "R!1")); break;
            case "letter": due.addAll(List.of("letter", "R", "at", "0-9999", "to", "R!1")); break;
            case "gusts": due.addAll(List.of("gusts", "from", "1-9", "odds", "0-100")); break;
            case "throws": return throwsLine(from, to);
            default: return at(1, from);
        }
        due.add(";");
        for (int i = 0; i < due.size(); i++) {
            int fault = held(due.get(i), from, from + i);
            if (fault != 0) {
                return at(fault, from + i);
            }
        }
        roofs = first ? Integer.parseInt(tokens.get(from + 1)) : roofs;
        return null;
    }

    private int[] throwsLine(int from, int to) {
        int fault = held("R", from, from + 1);
        if (fault != 0) {
            return at(fault, from + 1);
        }
        int i = from + 2;
        int number = 0;
        while (number == 0 || isNumber(tokens.get(i))) {
            fault = held("0-9", from, i);
            fault = fault == 0 && number == 8 ? 3 : fault;
            if (fault != 0) {
                return at(fault, i);
            }
            number++;
            i++;
            if (tokens.get(i).equals("to")) {
                fault = held("R", from, i + 1);
                boolean nothing = Integer.parseInt(tokens.get(i - 1)) == 0;
                if (fault == 0 && nothing && Integer.parseInt(tokens.get(i + 1)) != Integer.parseInt(tokens.get(from + 1))) {
                    fault = 2;
                }
                if (fault != 0) {
                    return at(fault, i + 1);
                }
                i += 2;
            }
        }
        return tokens.get(i).equals(";") ? null : at(1, i);
    }

    private static boolean isNumber(String token) {
        return token.matches("[0-9]+");
    }

    private int held(String due, int from, int i) {
        String token = tokens.get(i);
        if (!due.matches("R.*|[0-9].*")) {
            return !token.isEmpty() && List.of(due.split("\\|")).contains(token) ? 0 : 1;
        }
        if (!isNumber(token)) {
            return 1;
        }
        java.math.BigInteger value = new java.math.BigInteger(token);
        String[] bounds = due.startsWith("R") ? new String[] {"0", "" + (roofs - 1)} : due.split("-");
        if (value.compareTo(new java.math.BigInteger(bounds[0])) < 0
                || value.compareTo(new java.math.BigInteger(bounds[1])) > 0) {
            return 2;
        }
        boolean unlike = due.equals("R!1");
        return unlike && value.equals(new java.math.BigInteger(tokens.get(from + 1))) ? 2 : 0;
    }

    private int[] at(int fault, int i) {
        return new int[] {fault, places.get(i)};
    }
}
