import java.util.ArrayList;
import java.util.List;

/** The grammar once more as it stands in the document, a method for each rule: lines, faults and values of a text. */
final class PlainReader {
    private static final String[] WORDS = ("land from week moon sun feast person died deed years days till pay note year "
            + "day season alive after or and not length").split(" ");
    private static final List<String> SIGNS = List.of(";", "(", ")", "+", "-", "*", "/", "%", "<", "<=", "=", "<>", ">=",
            ">");
    private static final List<String> NAMES = List.of("day", "year", "week", "moon", "season", "length");
    private static final long LAST = 1000000000000L;

    /** A piece of the text with its place; the last one is the empty piece at the text's length. */
    private record Token(String text, int place) {
        boolean isNumber() {
            return !text.isEmpty() && Character.isDigit(text.charAt(0));
        }

        boolean isWord() {
            return !text.isEmpty() && text.charAt(0) >= 'a' && text.charAt(0) <= 'z';
        }
    }

    private static final class Fault extends RuntimeException {
        private static final long serialVersionUID = 1;
    }

    private final List<Token> tokens = new ArrayList<>();
    private int at;
    private final List<List<String>> names = new ArrayList<>();
    private final List<String> skyTold = new ArrayList<>();
    private final List<Integer> feastsAt = new ArrayList<>();
    private int[] firstLand;
    // what the names of a rule are while its value is asked; null while the text is read
    private long[] values;
    private int open;
    int knots;
    int lines;
    int fault;
    int place = -1;

    PlainReader(String text) {
        cut(text);
        for (int kind = 0; kind < 5; kind++) {
            names.add(new ArrayList<>());
        }
        try {
            while (!now().text.isEmpty()) {
                line();
                lines++;
            }
        } catch (Fault e) {
            lines = -1;
        }
    }

    int told(int kind) {
        return names.get(kind).size();
    }

    private void cut(String text) {
        int i = 0;
        while (i < text.length()) {
            int start = i;
            char sign = text.charAt(i++);
            if (sign == 10 || sign == 32) {
                continue;
            }
            if (sign >= 'a' && sign <= 'z') {
                while (i < text.length() && text.charAt(i) >= 'a' && text.charAt(i) <= 'z') {
                    i++;
                }
            } else if (sign >= '0' && sign <= '9') {
                while (i < text.length() && text.charAt(i) >= '0' && text.charAt(i) <= '9') {
                    i++;
                }
            } else if (i < text.length() && SIGNS.contains(text.substring(start, i + 1))) {
                i++;
            }
            tokens.add(new Token(text.substring(start, i), start));
        }
        tokens.add(new Token("", text.length()));
    }

    private Token now() {
        return tokens.get(at);
    }

    private boolean is(String text) {
        return now().text.equals(text);
    }

    private void fail(int what, int where) {
        fault = what;
        place = where;
        throw new Fault();
    }

    private void must(boolean so, int what) {
        if (!so) {
            fail(what, now().place);
        }
    }

    private void take(String text) {
        must(is(text), 1);
        at++;
    }

    // ---- lines

    private void line() {
        switch (now().text) {
            case "land": land(); break;
            case "week":
                sky();
                number(0, number(2, 30) - 1);
                break;
            case "moon":
                sky();
                number(0, parts() - 1);
                break;
            case "sun":
                sky();
                parts();
                break;
            case "feast": feast(); break;
            case "person": person(); break;
            case "deed": deed(); break;
            case "note": note(); break;
            default: fail(1, now().place);
        }
        take(";");
    }

    private void land() {
        String name = name(0, 4);
        int[] told = {number(1, 9999), signed(99), 0};
        if (is("from")) {
            at++;
            told[2] = number(0, 99999);
        }
        firstLand = firstLand == null ? told : firstLand;
        names.get(0).add(name);
    }

    private void sky() {
        must(!skyTold.contains(now().text), 3);
        skyTold.add(now().text);
        at++;
    }

    private int parts() {
        int parts = number(1, 9999);
        int where = now().place;
        int by = number(1, 99);
        // as days: parts by so many, 8 at least
        if ((double) parts / by < 8) {
            fail(2, where);
        }
        return parts;
    }

    private void feast() {
        String name = name(1, 4);
        feastsAt.add(at);
        either();
        names.get(1).add(name);
    }

    private void person() {
        String name = name(2, 6);
        long born = date();
        if (is("died")) {
            at++;
            int where = tokens.get(Math.min(at + 1, tokens.size() - 1)).place;
            if (date() < born) {
                fail(5, where);
            }
        }
        names.get(2).add(name);
    }

    private void deed() {
        String name = name(3, 4);
        date();
        switch (now().text) {
            case "years":
                at++;
                number(0, 999);
                break;
            case "days":
                at++;
                number(0, 99999);
                break;
            case "till":
                at++;
                known(1);
                break;
            default: fail(1, now().place);
        }
        take("pay");
        number(0, 999);
        names.get(3).add(name);
    }

    private void note() {
        String name = name(4, 6);
        List<String> said = new ArrayList<>();
        while (List.of("year", "day", "week", "moon", "season", "alive", "feast", "after").contains(now().text)) {
            must(!said.contains(now().text), 3);
            said.add(now().text);
            at++;
            switch (said.get(said.size() - 1)) {
                case "year": number(number(1, 9999), 9999); break;
                case "day": number(1, 99999); break;
                case "week": number(0, 99999); break;
                case "moon": number(0, 7); break;
                case "season": number(0, 3); break;
                case "alive": known(2); break;
                case "feast": known(1); break;
                default:
                    known(4);
                    signed(9999);
            }
        }
        names.get(4).add(name);
    }

    // ---- parts of lines

    private boolean isName() {
        return now().isWord() && now().text.length() <= 6 && !List.of(WORDS).contains(now().text);
    }

    private String name(int kind, int most) {
        must(told(kind) < most, 2);
        at++;
        must(isName(), 1);
        must(!names.get(kind).contains(now().text), 3);
        return tokens.get(at++).text;
    }

    private void known(int kind) {
        must(isName(), 1);
        must(names.get(kind).contains(now().text), 4);
        at++;
    }

    private int number(int least, int most) {
        must(now().isNumber(), 1);
        java.math.BigInteger number = new java.math.BigInteger(now().text);
        must(number.compareTo(java.math.BigInteger.valueOf(least)) >= 0
                && number.compareTo(java.math.BigInteger.valueOf(most)) <= 0, 2);
        at++;
        return number.intValue();
    }

    private int signed(int most) {
        if (is("-")) {
            at++;
            return -number(0, most);
        }
        return number(0, most);
    }

    /** Goes through the years one by one. */
    private long date() {
        int year = number(0, 99999);
        int where = now().place;
        int day = number(0, 99999);
        if (firstLand == null) {
            fail(5, where);
        }
        long begin = firstLand[2];
        long length = firstLand[0];
        for (int then = 1; then < year && length >= 1; then++) {
            begin += length;
            length += firstLand[1];
        }
        if (year < 1 || length < 1 || day < 1 || day > length) {
            fail(5, where);
        }
        return begin + day - 1;
    }

    // ---- rules: E, A, B, C, S, T, P; a value of null is an error

    /** The value of a feast's rule where day, year, week, moon, season, length are these. */
    Long value(int feast, long... as) {
        values = as;
        at = feastsAt.get(feast);
        return either();
    }

    private void knot() {
        must(values != null || knots < 64, 2);
        knots += values == null ? 1 : 0;
        at++;
    }

    private Long either() {
        Long left = both();
        while (is("or")) {
            knot();
            Long right = both();
            left = left == null || right == null ? null : (Long) (left != 0 || right != 0 ? 1L : 0L);
        }
        return left;
    }

    private Long both() {
        Long left = negated();
        while (is("and")) {
            knot();
            Long right = negated();
            left = left == null || right == null ? null : (Long) (left != 0 && right != 0 ? 1L : 0L);
        }
        return left;
    }

    private Long negated() {
        if (!is("not")) {
            return compared();
        }
        knot();
        Long of = negated();
        return of == null ? null : (Long) (of == 0 ? 1L : 0L);
    }

    private Long compared() {
        Long left = sum();
        String sign = now().text;
        if (!List.of("<", "<=", "=", "<>", ">=", ">").contains(sign)) {
            return left;
        }
        knot();
        Long right = sum();
        if (left == null || right == null) {
            return null;
        }
        int order = left.compareTo(right);
        switch (sign) {
            case "<": return order < 0 ? 1L : 0L;
            case "<=": return order <= 0 ? 1L : 0L;
            case "=": return order == 0 ? 1L : 0L;
            case "<>": return order != 0 ? 1L : 0L;
            case ">=": return order >= 0 ? 1L : 0L;
            default: return order > 0 ? 1L : 0L;
        }
    }

    private Long sum() {
        Long left = product();
        while (is("+") || is("-")) {
            boolean less = is("-");
            knot();
            Long right = product();
            left = left == null || right == null ? null : within(less ? left - right : left + right);
        }
        return left;
    }

    private Long product() {
        Long left = part();
        while (is("*") || is("/") || is("%")) {
            String sign = now().text;
            knot();
            Long right = part();
            left = left == null || right == null ? null : joined(sign, left, right);
        }
        return left;
    }

    private static Long joined(String sign, long left, long right) {
        if (sign.equals("*")) {
            java.math.BigInteger exact = java.math.BigInteger.valueOf(left).multiply(java.math.BigInteger.valueOf(right));
            return exact.bitLength() > 62 ? null : within(exact.longValue());
        }
        if (right == 0) {
            return null;
        }
        return sign.equals("/") ? left / right : left % right;
    }

    private static Long within(long value) {
        return value > LAST || value < -LAST ? null : (Long) value;
    }

    private Long part() {
        Token token = now();
        if (token.isNumber()) {
            must(token.text.replaceFirst("^0+", "").length() <= 4, 2);
            knot();
            return Long.parseLong(token.text);
        }
        int name = NAMES.indexOf(token.text);
        if (name >= 0) {
            knot();
            return values == null ? 1L : within(values[name]);
        }
        must(token.text.equals("("), 1);
        must(open < 8, 2);
        open++;
        at++;
        Long of = either();
        take(")");
        open--;
        return of;
    }
}
