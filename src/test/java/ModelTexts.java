import java.util.ArrayList;
import java.util.Collections;
import java.util.List;
import java.util.Random;

/** Texts of tables by a draw: most can be, some are spoilt. */
final class ModelTexts {
    private static final List<String> NAMES = List.of("a", "b", "c", "z", "rows", "wor", "notand", "missing", "abcdefgh",
        "abcdefgi", "slipp", "oranges", "leftrigh");
    private static final String[] UNITS = {"worth", "place", "size", "times", "left", "right"};
    private static final String[] SIGNS = {"+", "-", "*", "/", "%", "<", ">", "=", "and", "or"};
    private static final String SPOILS = "az09;()<>=+-*/% \n#\u00e9\u0000";

    private final Random draw;
    private final List<String> tokens = new ArrayList<>();

    private ModelTexts(Random draw) {
        this.draw = draw;
    }

    static String draw(Random draw) {
        ModelTexts texts = new ModelTexts(draw);
        texts.table();
        String text = texts.joined();
        for (int spoils = draw.nextInt(8) == 0 ? 1 + draw.nextInt(2) : 0; spoils > 0; spoils--) {
            text = texts.spoilt(text);
        }
        return text.length() > 1600 ? text.substring(0, 1600) : text;
    }

    private void add(String... more) {
        Collections.addAll(tokens, more);
    }

    private void table() {
        List<String> names = new ArrayList<>(NAMES);
        Collections.shuffle(names, draw);
        names = names.subList(0, draw.nextInt(6) == 0 ? draw.nextInt(10) : 1 + draw.nextInt(4));
        for (String name : names) {
            add("word", name, "worth", "" + draw.nextInt(draw.nextInt(4) == 0 ? 3 : 21), ";");
        }
        if (draw.nextInt(4) > 0) {
            miss();
        }
        if (!names.isEmpty()) {
            besides(names);
            rows(names);
        }
        if (draw.nextInt(3) > 0) {
            add("draw", "" + draw.nextInt(1000), ";");
        }
    }

    private void besides(List<String> names) {
        int told = 0;
        for (String name : names) {
            for (String next : names) {
                if (draw.nextInt(3) > 0 && told < 20) {
                    told++;
                    add("beside", name, next);
                    if (draw.nextInt(3) == 0) {
                        add("-");
                    }
                    add("" + draw.nextInt(10), ";");
                }
            }
        }
    }

    private void rows(List<String> names) {
        List<String> row = any(names, 1 + draw.nextInt(12));
        if (draw.nextInt(8) > 0) {
            add("row");
            tokens.addAll(row);
            add(";");
        }
        List<String> last = row;
        int slips = draw.nextInt(4) == 0 ? draw.nextInt(6) : 3 + draw.nextInt(3);
        for (int slip = 0; slip < slips; slip++) {
            int sort = draw.nextInt(6);
            last = sort == 0 ? any(names, 1 + draw.nextInt(8)) : partOf(sort < 4 ? last : row);
            add("slip");
            tokens.addAll(last);
            add(";");
        }
    }

    private List<String> any(List<String> names, int size) {
        List<String> row = new ArrayList<>();
        for (int i = 0; i < size; i++) {
            row.add(names.get(draw.nextInt(names.size())));
        }
        return row;
    }

    private List<String> partOf(List<String> row) {
        List<String> part = new ArrayList<>(row);
        for (int less = draw.nextInt(3); less > 0 && part.size() > 1 || part.size() > 8; less--) {
            part.remove(draw.nextInt(part.size()));
        }
        return part;
    }

    private void miss() {
        add("miss");
        e(1 + draw.nextInt(draw.nextInt(10) == 0 ? 35 : 9), 0);
        add(";");
    }

    /** So many units, joined by any signs, some of them in brackets. */
    private void e(int units, int depth) {
        boolean hasRelation = false;
        int left = units;
        while (left > 0) {
            int inner = left > 1 && depth < 8 && draw.nextInt(3) == 0 ? 1 + draw.nextInt(left - 1) : 0;
            if (inner > 0) {
                add("(");
                e(inner, depth + 1);
                add(")");
            } else {
                int which = draw.nextInt(8);
                add(which < 6 ? UNITS[which] : "" + draw.nextInt(which == 6 ? 4 : 10000));
            }
            left -= 1 + inner;
            if (left > 0) {
                hasRelation = sign(hasRelation, depth);
            }
        }
    }

    /** A second relation can't stand in one without an and, an or between them. */
    private boolean sign(boolean hasRelation, int depth) {
        String sign = SIGNS[draw.nextInt(SIGNS.length)];
        boolean isRelation = "<>=".contains(sign);
        if (isRelation && hasRelation) {
            add("+");
            return true;
        }
        add(sign);
        boolean isNew = sign.equals("and") || sign.equals("or");
        for (int nots = isNew && depth < 5 ? draw.nextInt(3) : 0; nots > 0; nots--) {
            add("not");
        }
        return isRelation || hasRelation && !isNew;
    }

    private String joined() {
        StringBuilder text = new StringBuilder();
        String last = ";";
        for (String token : tokens) {
            boolean mustPart = isWord(token) && (isWord(last) || isNumber(last)) || isNumber(token) && isNumber(last);
            for (int blanks = draw.nextInt(6) == 0 ? 1 : mustPart ? 1 : 0; blanks > 0; blanks--) {
                text.append(draw.nextInt(4) == 0 ? '\n' : ' ');
            }
            text.append(token);
            last = token;
        }
        return text.toString();
    }

    private static boolean isWord(String token) {
        return Character.isLowerCase(token.charAt(0));
    }

    private static boolean isNumber(String token) {
        return Character.isDigit(token.charAt(0));
    }

    private String spoilt(String text) {
        if (text.isEmpty()) {
            return "#";
        }
        int place = draw.nextInt(text.length());
        int other = draw.nextInt(text.length());
        String sign = "" + SPOILS.charAt(draw.nextInt(SPOILS.length()));
        return switch (draw.nextInt(5)) {
            case 0 -> text.substring(0, place) + text.substring(place + 1);
            case 1 -> text.substring(0, place) + sign + text.substring(place);
            case 2 -> text.substring(0, place) + sign + text.substring(place + 1);
            case 3 -> text.substring(0, place);
            default -> text + text.substring(Math.min(place, other), Math.max(place, other));
        };
    }
}
