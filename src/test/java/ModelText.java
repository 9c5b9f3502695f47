import java.util.ArrayList;
import java.util.HashMap;
import java.util.List;
import java.util.Map;
import java.util.function.IntBinaryOperator;
import java.util.function.ToIntFunction;
import java.util.regex.Matcher;
import java.util.regex.Pattern;

/** The text of a TABLE, read by the document's grammar: what it tells, or its FAULT. */
final class ModelText {
    private static final Pattern TOKEN = Pattern.compile(
        "(?<word>[a-z]+)|(?<number>[0-9]+)(?<behind>[a-z])?|(?<sign>[;()<>=+*/%-])|(?<other>.)", Pattern.DOTALL);
    private static final List<String> OWN = List.of("word", "worth", "beside", "row", "slip", "miss", "draw", "or",
        "and", "not", "place", "size", "times", "left", "right");
    private static final List<String> KNOWN = List.of("worth", "place", "size", "times", "left", "right");

    /** What comes of a part of e by what is known of a PLACE. */
    interface Part extends ToIntFunction<Map<String, Integer>> {
    }

    /** One of the text; NAME, N, END or BAD, or the word or sign that stands for itself. */
    private record Token(String sort, String text, int start) {
    }

    private static final class Fault extends RuntimeException {
        private static final long serialVersionUID = 1;
        final int number;
        final int place;

        Fault(int number, Token token) {
            this.number = number;
            this.place = token.start;
        }
    }

    final List<Integer> worths = new ArrayList<>();
    final Map<List<Integer>, Integer> besides = new HashMap<>();
    final List<Integer> row = new ArrayList<>();
    final List<List<Integer>> slips = new ArrayList<>();
    Part miss = null;
    int draw = 0;
    int units = 0;
    int fault = 0;
    int faultPlace = -1;
    private boolean hasDraw = false;
    private final List<String> names = new ArrayList<>();
    private final List<Token> tokens = new ArrayList<>();
    private int next = 0;

    ModelText(String text) {
        cut(text);
        try {
            while (!sees("END")) {
                line();
            }
        } catch (Fault found) {
            fault = found.number;
            faultPlace = found.place;
        }
    }

    private void cut(String text) {
        Matcher matcher = TOKEN.matcher(text);
        while (matcher.find()) {
            String found = matcher.group();
            if (!found.equals(" ") && !found.equals("\n")) {
                tokens.add(new Token(sortOf(matcher), found, matcher.start()));
            }
        }
        tokens.add(new Token("END", "", text.length()));
    }

    private static String sortOf(Matcher matcher) {
        String found = matcher.group();
        if (matcher.group("word") != null) {
            return OWN.contains(found) ? found : found.length() > 8 ? "BAD" : "NAME";
        }
        if (matcher.group("number") != null) {
            return found.length() > 4 || matcher.group("behind") != null ? "BAD" : "N";
        }
        return matcher.group("sign") != null ? found : "BAD";
    }

    private Token token() {
        return tokens.get(next);
    }

    private boolean sees(String... sorts) {
        return List.of(sorts).contains(token().sort);
    }

    private Fault misplaced() {
        return new Fault(sees("BAD") ? 1 : 2, token());
    }

    private Token take(String... sorts) {
        if (!sees(sorts)) {
            throw misplaced();
        }
        next++;
        return tokens.get(next - 1);
    }

    private void line() {
        boolean isOneTooMany = sees("word") && worths.size() == 9 || sees("beside") && besides.size() == 20
            || sees("row") && !row.isEmpty() || sees("slip") && slips.size() == 5 || sees("miss") && miss != null
            || sees("draw") && hasDraw;
        if (isOneTooMany) {
            throw misplaced();
        }
        switch (take("word", "beside", "row", "slip", "miss", "draw").text) {
            case "word" -> word();
            case "beside" -> beside();
            case "row" -> names(row, 12);
            case "slip" -> {
                slips.add(new ArrayList<>());
                names(slips.get(slips.size() - 1), 8);
            }
            case "miss" -> miss = either(0);
            default -> {
                hasDraw = true;
                draw = number(take("N"), 999);
            }
        }
        take(";");
    }

    private void word() {
        Token name = take("NAME");
        if (names.contains(name.text)) {
            throw new Fault(3, name);
        }
        take("worth");
        worths.add(number(take("N"), 20));
        names.add(name.text);
    }

    private void beside() {
        int first = told();
        Token second = token();
        List<Integer> pair = List.of(first, told());
        if (besides.containsKey(pair)) {
            throw new Fault(3, second);
        }
        Token sign = sees("-") ? take("-") : null;
        Token number = take("N");
        int weight = Integer.parseInt(number.text);
        if (weight > 9) {
            throw new Fault(4, sign == null ? number : sign);
        }
        besides.put(pair, sign == null ? weight : -weight);
    }

    private void names(List<Integer> into, int most) {
        do {
            into.add(told());
        } while (into.size() < most && sees("NAME"));
    }

    private int told() {
        Token name = take("NAME");
        if (!names.contains(name.text)) {
            throw new Fault(5, name);
        }
        return names.indexOf(name.text);
    }

    private static int number(Token token, int most) {
        int number = Integer.parseInt(token.text);
        if (number > most) {
            throw new Fault(4, token);
        }
        return number;
    }

    private static int truth(boolean isSo) {
        return isSo ? 1 : 0;
    }

    private static Part joined(Part left, Part right, IntBinaryOperator by) {
        return known -> by.applyAsInt(left.applyAsInt(known), right.applyAsInt(known));
    }

    private Part either(int within) {
        Part left = both(within);
        while (sees("or")) {
            take("or");
            left = joined(left, both(within), (a, b) -> truth(a != 0 || b != 0));
        }
        return left;
    }

    private Part both(int within) {
        Part left = one(within);
        while (sees("and")) {
            take("and");
            left = joined(left, one(within), (a, b) -> truth(a != 0 && b != 0));
        }
        return left;
    }

    private Part one(int within) {
        if (sees("not")) {
            if (within == 7) {
                throw misplaced();
            }
            take("not");
            Part inner = one(within + 1);
            return known -> truth(inner.applyAsInt(known) == 0);
        }
        Part left = sum(within);
        if (!sees("<", ">", "=")) {
            return left;
        }
        String relation = take("<", ">", "=").text;
        return joined(left, sum(within), (a, b) -> switch (relation) {
            case "<" -> truth(a < b);
            case ">" -> truth(a > b);
            default -> truth(a == b);
        });
    }

    private Part sum(int within) {
        Part left = term(within);
        while (sees("+", "-")) {
            boolean isPlus = take("+", "-").text.equals("+");
            left = joined(left, term(within), (a, b) -> isPlus ? a + b : a - b);
        }
        return left;
    }

    private Part term(int within) {
        Part left = unit(within);
        while (sees("*", "/", "%")) {
            String sign = take("*", "/", "%").text;
            left = joined(left, unit(within), (a, b) -> switch (sign) {
                case "*" -> a * b;
                case "/" -> b == 0 ? 0 : a / b;
                default -> b == 0 ? 0 : a % b;
            });
        }
        return left;
    }

    private Part unit(int within) {
        if (units == 30 || within == 7 && sees("(")) {
            throw misplaced();
        }
        if (sees("(")) {
            units++;
            take("(");
            Part inner = either(within + 1);
            take(")");
            return inner;
        }
        if (sees("N")) {
            units++;
            int number = Integer.parseInt(take("N").text);
            return known -> number;
        }
        String name = take(KNOWN.toArray(new String[0])).text;
        units++;
        return known -> known.get(name);
    }
}
