import java.util.ArrayDeque;
import java.util.ArrayList;
import java.util.Deque;
import java.util.HashSet;
import java.util.List;
import java.util.Random;
import java.util.Set;
import java.util.regex.Matcher;
import java.util.regex.Pattern;

/** Texts by a fixed draw, most of them spoilt: FAULT and place against a second reader, built otherwise. */
public final class GrammarTest {
    private static final Random DRAW = new Random(1600);
    private static final Set<String> OWN = Set.of("word", "worth", "beside", "row", "slip", "miss", "draw", "or", "and",
        "not", "place", "size", "times", "left", "right");
    private static final Set<String> KNOWN = Set.of("worth", "place", "size", "times", "left", "right");
    private static final Pattern TOKEN = Pattern.compile("(?s)[ \n]*(?:([a-z]+)|([0-9]+)|([;()<>=+*/%-])|(.)|$)");
    private static final String BYTES = "abcxyz0129;()<>=+-*/% \n#A\t";
    private static final String[] PIECES = {"word ", "beside ", "row ", "slip ", "miss ", "draw ", "worth ", "a ", "b ",
        "c ", "place ", "size ", "or ", "and ", "not ", ";", ";", "(", ")", "<", ">", "=", "+", "-", "*", "/", "%", "3 ",
        "12 ", "0 ", "not not ", "(((", ")))", "and not ("};
    private static final int[] SEEN = new int[6];

    private record Token(String kind, String text, int start) {
    }

    /** How far the second reader came. */
    private static final class Fault extends RuntimeException {
        private static final long serialVersionUID = 1;
        private final int number;
        private final int place;

        Fault(int number, int place) {
            super(null, null, false, false);
            this.number = number;
            this.place = place;
        }
    }

    public static void main(String[] args) {
        for (int n = 0; n < 30000; n++) {
            String text = n % 3 == 0 ? soup() : table();
            for (int spoils = DRAW.nextInt(3); spoils > 0 && !text.isEmpty(); spoils--) {
                text = spoilt(text);
            }
            compare(text.length() > 1600 ? text.substring(0, 1600) : text);
        }
        for (int fault = 0; fault <= 5; fault++) {
            Check.due("there were texts of FAULT " + fault, SEEN[fault] > 300, true);
        }
        Check.finish();
    }

    private static void compare(String text) {
        LostWords x = new LostWords();
        Check.feed(x, text);
        int answer = x.table();
        Second second = new Second(text);
        int number = 0;
        int place = -1;
        try {
            second.read();
        } catch (Fault fault) {
            number = fault.number;
            place = fault.place;
        }
        SEEN[number]++;
        Check.due("table() of " + text, answer, number == 0 ? second.slips : -1);
        Check.due("fault(0) of " + text, x.fault(0), number);
        Check.due("fault(1) of " + text, x.fault(1), place);
        if (number == 0) {
            Check.due("words of " + text, x.about(1), second.words.size());
            Check.due("besides of " + text, x.about(5), second.pairs.size());
            Check.due("units of " + text, x.about(11), second.units);
        }
    }

    /** Looks at one TOKEN after another and gathers all that is wrong with it; the least is its FAULT. */
    private static final class Second {
        private final List<Token> tokens = new ArrayList<>();
        private final Set<String> words = new HashSet<>();
        private final Set<String> pairs = new HashSet<>();
        private final Set<String> told = new HashSet<>();
        private int next = 0;
        private int slips = 0;
        private int units = 0;

        Second(String text) {
            Matcher matcher = TOKEN.matcher(text);
            int from = 0;
            while (from <= text.length() && matcher.find(from) && matcher.start() == from) {
                from = matcher.end();
                int group = 1;
                while (group <= 4 && matcher.group(group) == null) {
                    group++;
                }
                int start = group > 4 ? text.length() : matcher.start(group);
                String found = text.substring(start, group > 4 ? start : from);
                tokens.add(new Token(kind(group, found, from < text.length() ? text.charAt(from) : ' '), found, start));
                if (group > 4) {
                    return;
                }
            }
        }

        private static String kind(int group, String found, char behind) {
            return switch (group) {
                case 1 -> found.length() > 8 ? "BAD" : OWN.contains(found) ? found : "NAME";
                case 2 -> found.length() > 4 || behind >= 'a' && behind <= 'z' ? "BAD" : "N";
                case 3 -> found;
                case 4 -> "BAD";
                default -> "END";
            };
        }

        private Token look() {
            return tokens.get(next);
        }

        /** The TOKEN, if it is one of these and nothing else is wrong with it: wrong holds a FAULT or 0 each. */
        private Token take(Set<String> kinds, int... wrong) {
            Token token = look();
            int least = token.kind.equals("BAD") ? 1 : kinds.contains(token.kind) ? 9 : 2;
            for (int fault : wrong) {
                least = fault > 0 ? Math.min(least, fault) : least;
            }
            if (least < 9) {
                throw new Fault(least, token.start);
            }
            next++;
            return token;
        }

        private int wrongIf(boolean isWrong, int fault) {
            return isWrong ? fault : 0;
        }

        void read() {
            while (!look().kind.equals("END")) {
                String first = look().kind;
                boolean isTooMany = switch (first) {
                    case "word" -> words.size() == 9;
                    case "beside" -> pairs.size() == 20;
                    case "slip" -> slips == 5;
                    default -> told.contains(first);
                };
                take(Set.of("word", "beside", "row", "slip", "miss", "draw"), wrongIf(isTooMany, 2));
                told.add(first);
                switch (first) {
                    case "word" -> word();
                    case "beside" -> beside();
                    case "row" -> names(12);
                    case "slip" -> names(8);
                    case "miss" -> either();
                    default -> number(999, null);
                }
                take(Set.of(";"));
                slips += first.equals("slip") ? 1 : 0;
            }
        }

        private void number(int most, Token sign) {
            Token token = take(Set.of("N"));
            if (Integer.parseInt(token.text) > most) {
                throw new Fault(4, sign == null ? token.start : sign.start);
            }
        }

        private void word() {
            Token name = take(Set.of("NAME"), wrongIf(words.contains(look().text), 3));
            take(Set.of("worth"));
            number(20, null);
            words.add(name.text);
        }

        private Token name(int... wrong) {
            boolean isStrange = look().kind.equals("NAME") && !words.contains(look().text);
            int[] all = java.util.Arrays.copyOf(wrong, wrong.length + 1);
            all[wrong.length] = wrongIf(isStrange, 5);
            return take(Set.of("NAME"), all);
        }

        private void beside() {
            String first = name().text;
            String pair = first + " " + look().text;
            name(wrongIf(pairs.contains(pair), 3));
            Token sign = look().kind.equals("-") ? take(Set.of("-")) : null;
            number(9, sign);
            pairs.add(pair);
        }

        private void names(int most) {
            name();
            int count = 1;
            while (look().kind.equals("NAME")) {
                name(wrongIf(count == most, 2));
                count++;
            }
        }

        /** Without a call for what is within: a stack of {nots, whether there was a relation} instead. */
        private void either() {
            Deque<int[]> open = new ArrayDeque<>();
            open.push(new int[2]);
            boolean isOperandNext = true;
            boolean isNotNext = true;
            while (true) {
                int around = open.size() - 1 + open.stream().mapToInt(level -> level[0]).sum();
                String kind = look().kind;
                if (isOperandNext && kind.equals("not") && isNotNext) {
                    take(Set.of("not"), wrongIf(around > 6, 2));
                    open.peek()[0]++;
                } else if (isOperandNext && kind.equals("(")) {
                    take(Set.of("("), wrongIf(around > 6 || units == 30, 2));
                    units++;
                    open.push(new int[2]);
                    isNotNext = true;
                } else if (isOperandNext) {
                    Set<String> leaves = new HashSet<>(KNOWN);
                    leaves.add("N");
                    take(leaves, wrongIf(units == 30 && !kind.equals("BAD"), 2));
                    units++;
                    isOperandNext = false;
                } else if (kind.equals(";") && open.size() == 1) {
                    return;
                } else if (kind.equals(")") && open.size() > 1) {
                    take(Set.of(")"));
                    open.pop();
                } else {
                    Set<String> signs = new HashSet<>(Set.of("+", "-", "*", "/", "%", "and", "or"));
                    if (open.peek()[1] == 0) {
                        signs.addAll(Set.of("<", ">", "="));
                    }
                    String sign = take(signs).kind;
                    isNotNext = sign.equals("and") || sign.equals("or");
                    if (isNotNext) {
                        open.pop();
                        open.push(new int[2]);
                    } else if ("<>=".contains(sign)) {
                        open.peek()[1] = 1;
                    }
                    isOperandNext = true;
                }
            }
        }
    }

    private static String spoilt(String text) {
        int at = DRAW.nextInt(text.length());
        int to = Math.min(text.length(), at + 1 + DRAW.nextInt(8));
        char other = BYTES.charAt(DRAW.nextInt(BYTES.length()));
        return switch (DRAW.nextInt(7)) {
            case 0 -> text.substring(0, at) + text.substring(at + 1);
            case 1 -> text.substring(0, at) + other + text.substring(at);
            case 2 -> text.substring(0, at) + other + text.substring(at + 1);
            case 3 -> text.substring(0, at);
            case 4 -> text.substring(0, at) + text.substring(to);
            case 5 -> text.substring(0, to) + text.substring(at);
            default -> text.substring(0, at) + PIECES[DRAW.nextInt(PIECES.length)] + text.substring(at);
        };
    }

    private static String soup() {
        StringBuilder text = new StringBuilder("word a worth 1;word b worth 2;");
        text.append(DRAW.nextBoolean() ? "miss " : "");
        int pieces = DRAW.nextInt(40);
        for (int i = 0; i < pieces; i++) {
            text.append(PIECES[DRAW.nextInt(PIECES.length)]);
        }
        return text.toString();
    }

    private static String table() {
        StringBuilder text = new StringBuilder();
        int words = 1 + DRAW.nextInt(10);
        for (int w = 0; w < words; w++) {
            text.append("word ").append(name(w)).append(" worth ").append(DRAW.nextInt(22)).append(';').append(blank());
        }
        int besides = DRAW.nextInt(4) == 0 ? 19 + DRAW.nextInt(3) : DRAW.nextInt(4);
        for (int i = 0; i < besides; i++) {
            int pair = besides > 5 ? i : DRAW.nextInt(words * words);
            text.append("beside ").append(name(pair / words)).append(' ').append(name(pair % words)).append(blank())
                .append(DRAW.nextBoolean() ? "-" : "").append(blank()).append(DRAW.nextInt(11)).append(';');
        }
        int slips = DRAW.nextInt(7);
        for (int i = 0; i <= slips; i++) {
            text.append(i == 0 ? "row" : "slip");
            int size = i == 0 ? 1 + DRAW.nextInt(13) : 1 + DRAW.nextInt(9);
            for (int w = 0; w < size; w++) {
                text.append(' ').append(name(DRAW.nextInt(words)));
            }
            text.append(blank()).append(';');
        }
        if (DRAW.nextBoolean()) {
            text.append("draw ").append(DRAW.nextInt(1100)).append(';');
        }
        text.append("miss ");
        formula(text, 0, 2 + DRAW.nextInt(34));
        return text.append(';').toString();
    }

    private static String name(int word) {
        return String.valueOf((char) ('a' + word)).repeat(1 + word % 8);
    }

    private static String blank() {
        return new String[] {"", " ", "\n", "  "}[DRAW.nextInt(4)];
    }

    /** A formula of about so many units, now and then one too deep. */
    private static void formula(StringBuilder text, int depth, int units) {
        boolean isNotNext = true;
        for (int left = units; left > 0; left--) {
            while (isNotNext && DRAW.nextInt(4) == 0) {
                text.append("not ");
            }
            if (depth < 8 && left > 1 && DRAW.nextInt(4) == 0) {
                int inner = 1 + DRAW.nextInt(left - 1);
                text.append('(');
                formula(text, depth + 1, inner);
                text.append(')');
                left -= inner;
            } else {
                text.append(DRAW.nextBoolean() ? String.valueOf(DRAW.nextInt(10000)) : "size");
            }
            if (left > 1) {
                String[] signs = {"+", "-", "*", "/", "%", " and ", " or ", " and ", " or ", "<"};
                String sign = signs[DRAW.nextInt(signs.length)];
                text.append(sign);
                isNotNext = sign.length() > 1;
            }
        }
    }
}
