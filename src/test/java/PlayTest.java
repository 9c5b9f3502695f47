import java.util.ArrayList;
import java.util.List;
import java.util.Random;

/** Runs of ACTS by a fixed draw, with formulas by a draw, against a plain model of them. */
public final class PlayTest {
    private static final Random DRAW = new Random(49);
    private static final int WORDS = 4;
    private static final int[] WORTHS = new int[WORDS];
    private static final int[][] WEIGHTS = new int[WORDS][WORDS];
    private static int unitsLeft;
    private static Term formula;
    private static String told;

    /** A formula as a tree: its text, and what comes of it. */
    private interface Term {
        int of(int[] known);
    }

    private record Kept(List<Integer> row, int round, int seed) {
    }

    public static void main(String[] args) {
        for (int n = 0; n < 1200; n++) {
            run(n);
        }
        Check.finish();
    }

    private static void run(int n) {
        StringBuilder text = new StringBuilder();
        for (int w = 0; w < WORDS; w++) {
            WORTHS[w] = DRAW.nextInt(21);
            text.append("word ").append((char) ('p' + w)).append(" worth ").append(WORTHS[w]).append(';');
            for (int v = 0; v < WORDS; v++) {
                WEIGHTS[w][v] = 0;
            }
        }
        for (int w = 0; w < WORDS; w++) {
            for (int v = 0; v < WORDS; v++) {
                WEIGHTS[w][v] = DRAW.nextInt(19) - 9;
                text.append("beside ").append((char) ('p' + w)).append((char) 10).append((char) ('p' + v))
                    .append(' ').append(WEIGHTS[w][v]).append(';');
            }
        }
        List<Integer> row = new ArrayList<>();
        text.append("row");
        for (int i = 0; i <= DRAW.nextInt(12); i++) {
            row.add(DRAW.nextInt(WORDS));
            text.append(' ').append((char) ('p' + row.get(i)));
        }
        int seed = DRAW.nextInt(1000);
        text.append(";draw ").append(seed).append(';');
        formula = known -> known[0];
        if (n % 6 != 0) {
            unitsLeft = 30;
            StringBuilder e = new StringBuilder();
            formula = either(e, 0);
            text.append("miss ").append(e).append(';');
        }
        told = text.toString();
        acts(Check.told(told), new Kept(row, 0, seed));
    }

    private static void acts(LostWords x, Kept start) {
        List<Kept> past = new ArrayList<>();
        List<Kept> undone = new ArrayList<>();
        Kept[] boxes = new Kept[3];
        Kept now = start;
        for (int call = 0; call < 80; call++) {
            Kept before = now;
            int place = DRAW.nextInt(14) - 1;
            int word = DRAW.nextInt(WORDS + 2) - 1;
            boolean isAct = false;
            switch (DRAW.nextInt(12)) {
                case 0, 1, 2 -> {
                    int rule = DRAW.nextInt(4);
                    now = rule < 3 && !now.row.isEmpty() ? passed(now, rule) : now;
                    isAct = now != before;
                    Check.due("round " + told, x.round(rule), isAct ? lost(before, now, rule) : -1);
                }
                case 3 -> {
                    isAct = place >= 0 && place < now.row.size();
                    Check.due("leave", x.leave(place), isAct ? now.row.get(place) : -1);
                    now = isAct ? without(now, place) : now;
                }
                case 4, 5, 6, 7 -> {
                    isAct = place >= 0 && place <= now.row.size() && now.row.size() < 12 && isWord(word);
                    List<Integer> row = new ArrayList<>(now.row);
                    if (isAct) {
                        row.add(place, word);
                    }
                    Check.due("put", x.put(place, word), isAct ? row.size() : -1);
                    now = isAct ? new Kept(row, now.round, now.seed) : now;
                }
                case 8 -> {
                    isAct = place >= 0 && place < now.row.size() && isWord(word) && now.row.get(place) != word;
                    List<Integer> row = new ArrayList<>(now.row);
                    Check.due("change", x.change(place, word), isAct ? row.set(place, word) : -1);
                    now = isAct ? new Kept(row, now.round, now.seed) : now;
                }
                case 9 -> {
                    Check.due("undo", x.undo(), !past.isEmpty());
                    if (!past.isEmpty()) {
                        undone.add(now);
                        now = past.remove(past.size() - 1);
                    }
                }
                case 10 -> {
                    Check.due("redo", x.redo(), !undone.isEmpty());
                    if (!undone.isEmpty()) {
                        past.add(now);
                        now = undone.remove(undone.size() - 1);
                    }
                }
                default -> {
                    int box = DRAW.nextInt(5) - 1;
                    boolean isBox = box >= 0 && box < 3;
                    if (DRAW.nextInt(3) > 0) {
                        Check.due("image", x.image(box), isBox ? now.round : -1);
                        if (isBox) {
                            boxes[box] = now;
                        }
                    } else {
                        Kept kept = isBox ? boxes[box] : null;
                        Check.due("back", x.back(box), kept == null ? -1 : kept.round);
                        if (kept != null) {
                            now = kept;
                            past.clear();
                            undone.clear();
                        }
                    }
                }
            }
            if (isAct) {
                past.add(before);
                undone.clear();
                if (past.size() > 40) {
                    past.remove(0);
                }
            }
            // An object is good for 512 calls: all is looked at now and then, the round each time.
            Check.due("the round", x.about(3), now.round);
            if (call % 12 == 11 || call == 79) {
                compare(x, now, past.size(), undone.size());
            }
        }
    }

    private static boolean isWord(int word) {
        return word >= 0 && word < WORDS;
    }

    private static void compare(LostWords x, Kept now, int acts, int undone) {
        Check.row("the row", x, now.row.stream().mapToInt(w -> w).toArray());
        Check.due("round", x.about(3), now.round);
        Check.due("seed", x.about(4), now.seed);
        Check.due("acts", x.about(6), acts);
        Check.due("undone", x.about(7), undone);
        Check.due("sense", x.sense(-1), sense(now.row));
        for (int i = 0; i < now.row.size(); i++) {
            Check.due("miss(" + i + ") " + told, x.miss(i), miss(now.row, i));
        }
        Check.due("missed(0)", x.missed(0), best(now.row, -1));
        Check.due("missed(1)", x.missed(1), best(now.row, 1));
        int rule = DRAW.nextInt(3);
        int rounds = DRAW.nextInt(13);
        Kept later = now;
        Kept lastOne = now;
        for (int i = 0; i < 12; i++) {
            lastOne = later.row.size() == 1 ? later : lastOne;
            if (i == rounds) {
                Check.due("will", x.will(rule, rounds), sense(later.row));
            }
            later = later.row.isEmpty() ? later : passed(later, rule);
        }
        Check.due("last", x.last(rule), now.row.isEmpty() ? -1 : lastOne.row.get(0));
    }

    private static int sense(List<Integer> row) {
        int sum = 0;
        for (int i = 1; i < row.size(); i++) {
            sum += WEIGHTS[row.get(i - 1)][row.get(i)];
        }
        return sum;
    }

    private static int miss(List<Integer> row, int place) {
        int word = row.get(place);
        int times = (int) row.stream().filter(w -> w == word).count();
        int left = place == 0 ? 0 : WEIGHTS[row.get(place - 1)][word];
        int right = place == row.size() - 1 ? 0 : WEIGHTS[word][row.get(place + 1)];
        return formula.of(new int[] {WORTHS[word], place, row.size(), times, left, right});
    }

    private static int best(List<Integer> row, int sign) {
        int found = -1;
        for (int i = 0; i < row.size(); i++) {
            if (found < 0 || sign * Integer.compare(miss(row, i), miss(row, found)) > 0) {
                found = i;
            }
        }
        return found;
    }

    private static int placeBy(Kept now, int rule) {
        int drawn = (now.seed * 137 + 71) % 1000 % now.row.size();
        return rule == 0 ? drawn : best(now.row, rule == 1 ? -1 : 1);
    }

    private static int lost(Kept before, Kept now, int rule) {
        return before.row.get(placeBy(before, rule));
    }

    private static Kept passed(Kept now, int rule) {
        Kept left = without(now, placeBy(now, rule));
        return new Kept(left.row, now.round + 1, rule == 0 ? (now.seed * 137 + 71) % 1000 : now.seed);
    }

    private static Kept without(Kept now, int place) {
        List<Integer> row = new ArrayList<>(now.row);
        row.remove(place);
        return new Kept(row, now.round, now.seed);
    }

    private static boolean goesOn(int chance) {
        return unitsLeft > 1 && DRAW.nextInt(chance) == 0;
    }

    private static int truth(boolean isSo) {
        return isSo ? 1 : 0;
    }

    private static Term either(StringBuilder text, int depth) {
        Term left = both(text, depth);
        while (goesOn(5)) {
            text.append(" or ");
            Term one = left;
            Term two = both(text, depth);
            left = known -> truth(one.of(known) != 0 | two.of(known) != 0);
        }
        return left;
    }

    private static Term both(StringBuilder text, int depth) {
        Term left = one(text, depth);
        while (goesOn(5)) {
            text.append(" and ");
            Term one = left;
            Term two = one(text, depth);
            left = known -> truth(one.of(known) != 0 & two.of(known) != 0);
        }
        return left;
    }

    private static Term one(StringBuilder text, int depth) {
        if (depth < 7 && DRAW.nextInt(6) == 0) {
            text.append("not ");
            Term inner = one(text, depth + 1);
            return known -> truth(inner.of(known) == 0);
        }
        Term left = sum(text, depth);
        if (!goesOn(4)) {
            return left;
        }
        char sign = "<>=".charAt(DRAW.nextInt(3));
        text.append(sign);
        Term right = sum(text, depth);
        return known -> {
            int compared = Integer.compare(left.of(known), right.of(known));
            return truth(sign == '<' ? compared < 0 : sign == '>' ? compared > 0 : compared == 0);
        };
    }

    private static Term sum(StringBuilder text, int depth) {
        Term left = term(text, depth);
        while (goesOn(2)) {
            boolean isPlus = DRAW.nextBoolean();
            text.append(isPlus ? "+" : " - ");
            Term one = left;
            Term two = term(text, depth);
            left = known -> isPlus ? one.of(known) + two.of(known) : one.of(known) - two.of(known);
        }
        return left;
    }

    private static Term term(StringBuilder text, int depth) {
        Term left = unit(text, depth);
        while (goesOn(3)) {
            char sign = "*/%".charAt(DRAW.nextInt(3));
            text.append(sign);
            Term one = left;
            Term two = unit(text, depth);
            left = known -> {
                int by = two.of(known);
                if (sign == '*') {
                    return one.of(known) * by;
                }
                return by == 0 ? 0 : sign == '/' ? one.of(known) / by : one.of(known) % by;
            };
        }
        return left;
    }

    private static Term unit(StringBuilder text, int depth) {
        unitsLeft--;
        if (depth < 7 && unitsLeft > 4 && DRAW.nextInt(4) == 0) {
            text.append('(');
            Term inner = either(text, depth + 1);
            text.append(')');
            return inner;
        }
        int which = DRAW.nextInt(8);
        if (which > 5) {
            int number = DRAW.nextInt(DRAW.nextBoolean() ? 10000 : 4);
            text.append(number);
            return known -> number;
        }
        text.append(new String[] {"worth", "place", "size", "times", "left", "right"}[which]);
        return known -> known[which];
    }
}
