import java.util.Random;

/** Writes texts of republics, most of them good ones, by a given row of numbers. */
final class Writer {
    private static final String[] WORDS = ("month from to person votes wish due by pays on of late sun and law count "
        + "most middle mean week broken or not days gets owes drift year have a b c abcdefgh abcdefghi").split(" ");
    private static final String[] MORE = {";", "(", ")", "<", ">", "=", "+", "-", "*", "/", "%", "0", "1", "7", "31",
        "32", "99", "100", "9999", "10000", "5x", "\t", "A", "\u00e9", "\u0000", "{"};

    private final Random random;

    Writer(Random random) {
        this.random = random;
    }

    private int below(int n) {
        return random.nextInt(n);
    }

    private boolean once(int in) {
        return below(in) == 0;
    }

    private String blank() {
        return once(6) ? "\n" : once(8) ? "  " : " ";
    }

    String republic() {
        StringBuilder text = new StringBuilder();
        int months = once(12) ? 0 : 1 + below(once(3) ? 6 : 3);
        int people = once(10) ? 0 : 1 + below(5);
        boolean lawFirst = once(3);
        if (lawFirst) {
            law(text);
        }
        for (int i = 0; i < months; i++) {
            int from = once(4) ? below(32) : below(5);
            int to = once(6) ? 31 : Math.min(31, from + below(5));
            text.append("month m").append((char) ('a' + i)).append(" from ").append(from).append(" to ")
                .append(Math.max(from, to)).append(';').append(blank());
        }
        for (int i = 0; i < people; i++) {
            text.append("person p").append((char) ('a' + i)).append(blank()).append("votes ").append(below(10));
            if (!once(6)) {
                text.append(" wish ").append(once(4) ? wave() : formula(once(5) ? 4 : 2));
            }
            text.append(';').append(blank());
        }
        if (people > 1 && months > 0) {
            dues(text, months, people);
        }
        if (once(2)) {
            int lower = 1 + below(once(2) ? 99 : 5);
            text.append("sun ").append(below(once(2) ? 187 : 20)).append(" and ").append(below(lower)).append(" of ")
                .append(lower).append(';');
        }
        if (!lawFirst && once(2)) {
            law(text);
        }
        if (!once(3)) {
            text.append("count ").append(WORDS[16 + below(3)]).append(" ;");
        }
        if (once(2)) {
            text.append("week ").append(1 + below(9)).append(once(2) ? " broken;" : ";");
        }
        return text.toString();
    }

    private void law(StringBuilder text) {
        text.append("law ").append(formula(2)).append(';').append(blank());
    }

    private void dues(StringBuilder text, int months, int people) {
        int dues = below(once(3) ? 13 : 5);
        for (int i = 0; i < dues; i++) {
            int by = below(people);
            int to = (by + 1 + below(people - 1)) % people;
            text.append("due d").append((char) ('a' + i)).append(" by p").append((char) ('a' + by)).append(" to p")
                .append((char) ('a' + to)).append(" pays ").append(1 + below(once(3) ? 99 : 9)).append(" on ")
                .append(1 + below(once(3) ? 31 : 6)).append(" of m").append((char) ('a' + below(months)))
                .append(once(2) ? " late;" : ";").append(blank());
        }
    }

    private String formula(int depth) {
        int sort = below(depth <= 0 ? 4 : 14);
        switch (sort) {
            case 0:
                return Integer.toString(below(once(4) ? 10000 : 32));
            case 1:
            case 2:
            case 3:
                return new String[] {"days", "days", "gets", "owes", "drift", "year", "month", "have"}[below(8)];
            case 4:
                return "(" + formula(depth - 1) + ")";
            case 5:
                return "(not " + formula(depth - 1) + ")";
            case 6:
                return "(" + formula(depth - 1) + "<>=".charAt(below(3)) + formula(depth - 1) + ")";
            case 7:
                return "(" + formula(depth - 1) + " " + (once(2) ? "and" : "or") + " " + formula(depth - 1) + ")";
            case 8:
                return once(3) ? "not " + formula(depth - 1) : "0 - " + formula(depth - 1);
            default:
                return formula(depth - 1) + blank() + "+-*/%".charAt(below(5)) + blank() + formula(depth - 1);
        }
    }

    /** A wish that goes up and down with the days, so that votes are long in coming to rest. */
    private String wave() {
        return "(days*days*" + below(40) + "+days*" + below(40) + (once(2) ? ")%" : "-gets)%") + (2 + below(60));
    }

    /** The text with something wrong in it, most times. */
    String spoilt(String text) {
        StringBuilder spoilt = new StringBuilder(text);
        for (int times = 1 + below(2); times > 0; times--) {
            int at = below(spoilt.length() + 1);
            int behind = Math.min(spoilt.length(), at + 1 + below(3));
            switch (below(6)) {
                case 0:
                    spoilt.setLength(at);
                    break;
                case 1:
                    spoilt.delete(at, behind);
                    break;
                case 2:
                    spoilt.insert(at, (char) below(256));
                    break;
                case 3:
                    spoilt.insert(at, spoilt.substring(0, at));
                    break;
                default:
                    String more = once(2) ? WORDS[below(WORDS.length)] : MORE[below(MORE.length)];
                    spoilt.replace(at, once(2) ? at : behind, once(2) ? " " + more + " " : more);
                    break;
            }
        }
        return cut(spoilt);
    }

    /** Tokens in any order. */
    String soup() {
        StringBuilder text = new StringBuilder();
        for (int i = below(60); i >= 0; i--) {
            text.append(once(2) ? WORDS[below(WORDS.length)] : MORE[below(11)]).append(once(3) ? "" : " ");
        }
        return cut(text);
    }

    /** Formulas at the bounds of units, of nots and of ( e ). */
    String bounds() {
        StringBuilder text = new StringBuilder("month m from 1 to 9;");
        for (int p = 0; p < 5; p++) {
            text.append("person p").append((char) ('a' + p)).append(" votes 1 wish ");
            int units = once(5) ? 29 + below(3) : 14 + below(8);
            int deep = once(4) ? 6 + below(3) : below(6);
            for (int i = 0; i < deep; i++) {
                text.append(once(2) ? "(" : "not ");
            }
            int open = 0;
            for (int i = 0; i < text.length(); i++) {
                open += text.charAt(i) == '(' ? 1 : text.charAt(i) == ')' ? -1 : 0;
            }
            text.append("1");
            for (int i = 1; i < units - open; i++) {
                text.append("+1");
            }
            for (int i = 0; i < open; i++) {
                text.append(')');
            }
            text.append(";\n");
        }
        return cut(text);
    }

    private static String cut(StringBuilder text) {
        return text.substring(0, Math.min(text.length(), 1700));
    }
}
