import java.util.ArrayList;
import java.util.Arrays;
import java.util.List;
import java.util.Random;
import java.util.TreeSet;

/** Small tables by a fixed draw: every answer against one that is found by trying all there is. */
public final class BruteTest {
    private static final Random DRAW = new Random(20261118);
    private static int[] worths;
    private static int[][] weights;
    private static int[] row;
    private static int[][] slips;
    private static String told;

    public static void main(String[] args) {
        for (int n = 0; n < 250; n++) {
            draw(1 + DRAW.nextInt(4), n % 5 == 0 ? 12 : 7, n % 3 == 0 ? 3 : 5);
            rows(fresh());
            for (int s = 0; s < slips.length; s++) {
                pairs(fresh(), s);
            }
            if (n % 4 == 0) {
                triples(fresh());
            }
            losses(fresh());
            mending(fresh());
            seats(fresh());
        }
        Check.finish();
    }

    /** An object is good for 512 calls: each part of a test has one of its own. */
    private static LostWords fresh() {
        return Check.told(told);
    }

    private static void draw(int words, int mostRow, int mostSlip) {
        StringBuilder text = new StringBuilder();
        worths = new int[words];
        for (int w = 0; w < words; w++) {
            worths[w] = DRAW.nextInt(21);
            text.append("word ").append((char) ('a' + w)).append(" worth ").append(worths[w]).append(";\n");
        }
        weights = new int[words][words];
        for (int a = 0; a < words; a++) {
            for (int b = 0; b < words; b++) {
                if (DRAW.nextInt(3) > 0) {
                    weights[a][b] = DRAW.nextInt(19) - 9;
                    text.append("beside ").append((char) ('a' + a)).append(' ').append((char) ('a' + b))
                        .append(' ').append(weights[a][b]).append(';');
                }
            }
        }
        row = drawRow(DRAW.nextInt(mostRow + 1), words);
        if (row.length > 0) {
            text.append("row").append(names(row)).append(';');
        }
        slips = new int[DRAW.nextInt(6)][];
        for (int s = 0; s < slips.length; s++) {
            boolean isPart = s > 0 && DRAW.nextBoolean();
            slips[s] = isPart ? part(slips[s - 1]) : drawRow(1 + DRAW.nextInt(mostSlip), words);
            text.append("slip").append(names(slips[s])).append(';');
        }
        told = text.toString();
    }

    private static int[] part(int[] whole) {
        int drop = DRAW.nextInt(whole.length);
        return whole.length > 1 ? without(whole, 1 << drop) : whole;
    }

    private static int[] drawRow(int size, int words) {
        int[] drawn = new int[size];
        for (int i = 0; i < size; i++) {
            drawn[i] = DRAW.nextInt(words);
        }
        return drawn;
    }

    private static String names(int[] line) {
        StringBuilder text = new StringBuilder();
        for (int word : line) {
            text.append(' ').append((char) ('a' + word));
        }
        return text.toString();
    }

    private static int sense(int[] line) {
        int sum = 0;
        for (int i = 0; i + 1 < line.length; i++) {
            sum += weights[line[i]][line[i + 1]];
        }
        return sum;
    }

    private static int mark(int[] line) {
        int sum = 0;
        for (int i = 0; i < line.length; i++) {
            sum += (i + 1) * worths[line[i]];
        }
        return sum % 100;
    }

    /** What is left without the places of these bits (bit 0: place 0). */
    private static int[] without(int[] line, int bits) {
        return java.util.stream.IntStream.range(0, line.length).filter(i -> (bits >> i & 1) == 0)
            .map(i -> line[i]).toArray();
    }

    private static int ways(int[] part, int[] whole) {
        int count = 0;
        for (int bits = 0; bits < 1 << whole.length; bits++) {
            if (Arrays.equals(without(whole, bits), part)) {
                count++;
            }
        }
        return count;
    }

    private static boolean comes(int[] part, int[] whole) {
        if (part.length == 0) {
            return true;
        }
        if (whole.length < part.length) {
            return false;
        }
        int[] rest = Arrays.copyOfRange(whole, 1, whole.length);
        return whole[0] == part[0] ? comes(Arrays.copyOfRange(part, 1, part.length), rest) : comes(part, rest);
    }

    private static void rows(LostWords x) {
        Check.due("sense of the row", x.sense(-1), sense(row));
        Check.due("mark of the row", x.mark(-1), mark(row));
        for (int s = 0; s < slips.length; s++) {
            int slip = s;
            Check.due("sense", x.sense(s), sense(slips[s]));
            Check.due("mark", x.mark(s), mark(slips[s]));
            Check.due("lacks", x.lacks(s), Arrays.stream(row).distinct()
                .filter(w -> Arrays.stream(slips[slip]).noneMatch(v -> v == w)).map(w -> 1 << w).sum());
            int least = slips[s].length;
            for (int bits = 0; bits < 1 << slips[s].length; bits++) {
                if (Integer.bitCount(bits) < least && comes(without(slips[s], bits), row)) {
                    least = Integer.bitCount(bits);
                }
            }
            Check.due("strange", x.strange(s), least);
            Check.due("apart from the row", x.apart(s, -1), edits(slips[s], row));
            Check.due("ways from the row", x.ways(s, -1), ways(slips[s], row));
            Check.due("ways of the row", x.ways(-1, s), ways(row, slips[s]));
            odds(x, s);
        }
    }

    private static void odds(LostWords x, int s) {
        if (slips[s].length > row.length) {
            Check.due("odds of too long a slip", x.odds(s, 0), -1);
            return;
        }
        if (row.length > 8) {
            return;
        }
        // All runs of draws, each as likely as another.
        long hits = runs(row, slips[s]);
        long all = 1;
        for (int i = row.length; i > slips[s].length; i--) {
            all *= i;
        }
        int upper = x.odds(s, 0);
        int lower = x.odds(s, 1);
        Check.due("odds", upper * all, hits * lower);
        Check.due("lowest terms", gcd(upper, lower), 1);
    }

    private static long runs(int[] line, int[] wanted) {
        if (line.length == wanted.length) {
            return Arrays.equals(line, wanted) ? 1 : 0;
        }
        long count = 0;
        for (int i = 0; i < line.length; i++) {
            count += runs(without(line, 1 << i), wanted);
        }
        return count;
    }

    private static int gcd(int a, int b) {
        return b == 0 ? Math.abs(a) : gcd(b, a % b);
    }

    private static int edits(int[] a, int[] b) {
        return edits(a, b, 0, 0, new int[a.length + 1][b.length + 1]);
    }

    private static int edits(int[] a, int[] b, int i, int j, int[][] seen) {
        if (i == a.length || j == b.length) {
            return a.length - i + b.length - j;
        }
        if (seen[i][j] == 0) {
            int best = edits(a, b, i + 1, j + 1, seen) + (a[i] == b[j] ? 0 : 1);
            best = Math.min(best, 1 + edits(a, b, i + 1, j, seen));
            seen[i][j] = 1 + Math.min(best, 1 + edits(a, b, i, j + 1, seen));
        }
        return seen[i][j] - 1;
    }

    /** All rows of this length, first ones first. */
    private static List<int[]> allRows(int length) {
        List<int[]> all = new ArrayList<>();
        int count = (int) Math.round(Math.pow(worths.length, length));
        for (int n = 0; n < count; n++) {
            int[] line = new int[length];
            int rest = n;
            for (int i = length - 1; i >= 0; i--) {
                line[i] = rest % worths.length;
                rest /= worths.length;
            }
            all.add(line);
        }
        return all;
    }

    private static List<int[]> shortest(int[]... parts) {
        for (int length = 0; ; length++) {
            List<int[]> found = new ArrayList<>();
            for (int[] line : allRows(length)) {
                if (Arrays.stream(parts).allMatch(part -> comes(part, line))) {
                    found.add(line);
                }
            }
            if (!found.isEmpty()) {
                return found;
            }
        }
    }

    private static int[] longest(int[] a, int[] b) {
        TreeSet<String> best = new TreeSet<>();
        int length = -1;
        for (int bits = 0; bits < 1 << a.length; bits++) {
            int[] line = without(a, bits);
            if (comes(line, b) && line.length >= length) {
                if (line.length > length) {
                    best.clear();
                    length = line.length;
                }
                best.add(names(line));
            }
        }
        return best.first().replace(" ", "").chars().map(c -> c - 'a').toArray();
    }

    private static void pairs(LostWords x, int s) {
        int coming = 0;
        for (int t = 0; t < slips.length; t++) {
            coming |= comes(slips[t], slips[s]) ? 1 << t : 0;
            Check.due("ways", x.ways(t, s), ways(slips[t], slips[s]));
            Check.due("apart", x.apart(t, s), edits(slips[t], slips[s]));
            int[] common = longest(slips[s], slips[t]);
            Check.due("common", x.common(s, t), common.length);
            Check.lying("common", x, common);
            if (slips[s].length + slips[t].length <= 7) {
                List<int[]> found = shortest(slips[s], slips[t]);
                Check.due("sources", x.sources(s, t), found.size());
                Check.due("source", x.source(s, t), found.get(0).length);
                Check.lying("source", x, found.get(0));
            }
        }
        Check.due("comes", x.comes(s), coming);
    }

    private static void triples(LostWords x) {
        for (int n = 0; n < 3 && slips.length > 0; n++) {
            int a = DRAW.nextInt(slips.length);
            int b = DRAW.nextInt(slips.length);
            int c = DRAW.nextInt(slips.length);
            if (slips[a].length + slips[b].length + slips[c].length <= 9) {
                int[] first = shortest(slips[a], slips[b], slips[c]).get(0);
                Check.due("three", x.three(a, b, c), first.length);
                Check.lying("three", x, first);
            }
        }
    }

    private static void losses(LostWords x) {
        for (int n = 0; n <= 4; n++) {
            if (n >= row.length) {
                Check.due("keep", x.keep(n, 0), LostWords.GAP);
                Check.due("mean", x.mean(n, 0), LostWords.GAP);
            } else {
                keeping(x, n);
            }
            if (n >= 1 && n <= row.length && row.length <= 8) {
                Check.due("duel", x.duel(n, 0), duel(row, n, true));
                int place = 0;
                while (n > 1 ? duel(without(row, 1 << place), n - 1, false) != duel(row, n, true)
                        : sense(without(row, 1 << place)) != duel(row, n, true)) {
                    place++;
                }
                Check.due("its place", x.duel(n, 1), place);
            } else if (n > row.length || n == 0) {
                Check.due("duel", x.duel(n, 0), LostWords.GAP);
            }
        }
    }

    private static void keeping(LostWords x, int n) {
        List<int[]> sets = new ArrayList<>();
        subsets(new int[n], 0, 0, sets);
        int[] most = null;
        int[] least = null;
        long sum = 0;
        for (int[] set : sets) {
            int sense = sense(left(set));
            sum += sense;
            most = most == null || sense > sense(left(most)) ? set : most;
            least = least == null || sense < sense(left(least)) ? set : least;
        }
        Check.due("keep most", x.keep(n, 0), sense(left(most)));
        Check.lying("keep most", x, most);
        Check.due("keep least", x.keep(n, 1), sense(left(least)));
        Check.lying("keep least", x, least);
        Check.due("mean", (long) x.mean(n, 0) * sets.size(), sum * x.mean(n, 1));
        Check.due("mean in lowest terms", gcd(x.mean(n, 0), x.mean(n, 1)), 1);
        Check.due("its lower part is above 0", x.mean(n, 1) > 0, true);
    }

    private static int[] left(int[] set) {
        return without(row, Arrays.stream(set).map(p -> 1 << p).sum());
    }

    private static void subsets(int[] set, int at, int from, List<int[]> out) {
        if (at == set.length) {
            out.add(set.clone());
            return;
        }
        for (int place = from; place < row.length; place++) {
            set[at] = place;
            subsets(set, at + 1, place + 1, out);
        }
    }

    private static int duel(int[] line, int n, boolean isFirst) {
        if (n == 0) {
            return sense(line);
        }
        int best = isFirst ? Integer.MIN_VALUE : Integer.MAX_VALUE;
        for (int i = 0; i < line.length; i++) {
            int outcome = duel(without(line, 1 << i), n - 1, !isFirst);
            best = isFirst ? Math.max(best, outcome) : Math.min(best, outcome);
        }
        return best;
    }

    private static List<int[]> mended(int[] line, int mark) {
        List<int[]> found = new ArrayList<>();
        for (int[] candidate : allRows(line.length + 1)) {
            if (mark(candidate) == mark && comes(line, candidate)) {
                found.add(candidate);
            }
        }
        return found;
    }

    private static void mending(LostWords x) {
        for (int s = 0; s < slips.length; s++) {
            int[] marks = {DRAW.nextInt(100), mark(slips[s]), (mark(slips[s]) + 1) % 100, 0};
            for (int mark : marks) {
                List<int[]> found = mended(slips[s], mark);
                Check.due("mended", x.mended(s, mark), found.size());
                Check.lying("mended", x, found.isEmpty() ? new int[0] : found.get(0));
            }
        }
        if (row.length <= 6) {
            int safe = 0;
            for (int p = 0; p < row.length; p++) {
                safe |= mended(without(row, 1 << p), mark(row)).size() == 1 ? 1 << p : 0;
            }
            Check.due("safe", x.safe(), safe);
        }
    }

    private static void orders(int[] order, int at, int[][] hints, int k, List<int[]> out) {
        if (at == order.length) {
            for (int[] h : hints) {
                boolean counts = h[2] <= k && !(h[3] >= 0 && h[3] <= k);
                if (counts && placeOf(order, h[0]) > placeOf(order, h[1])) {
                    return;
                }
            }
            out.add(order.clone());
            return;
        }
        for (int s = 0; s < order.length; s++) {
            int slip = s;
            if (Arrays.stream(order, 0, at).noneMatch(o -> o == slip)
                    && (at == 0 || comes(slips[s], slips[order[at - 1]]))) {
                order[at] = s;
                orders(order, at + 1, hints, k, out);
            }
        }
    }

    private static int placeOf(int[] order, int slip) {
        int place = 0;
        while (order[place] != slip) {
            place++;
        }
        return place;
    }

    private static void seats(LostWords x) {
        int count = slips.length > 1 ? DRAW.nextInt(4) : 0;
        int[][] hints = new int[count][];
        int time = x.about(9);
        for (int h = 0; h < count; h++) {
            int a = DRAW.nextInt(slips.length);
            int b = (a + 1 + DRAW.nextInt(slips.length - 1)) % slips.length;
            boolean isAhead = DRAW.nextBoolean();
            Check.due("hint", x.hint(a, b, isAhead), h);
            hints[h] = new int[] {isAhead ? a : b, isAhead ? b : a, time, -1};
            int by = DRAW.nextInt(3);
            time += by;
            x.later(by);
            int untold = DRAW.nextInt(count);
            if (untold <= h && hints[untold][3] < 0) {
                hints[untold][3] = time;
                Check.due("untell", x.untell(untold), true);
            }
        }
        List<int[]> sittings = new ArrayList<>();
        orders(new int[slips.length], 0, new int[0][], 0, sittings);
        Check.due("sittings", x.sittings(), sittings.size());
        Check.lying("sittings", x, sittings.isEmpty() ? new int[0] : sittings.get(0));
        for (int k = -1; k <= time + 1; k++) {
            seatsAt(x, hints, k);
        }
    }

    private static void seatsAt(LostWords x, int[][] hints, int k) {
        List<int[]> found = new ArrayList<>();
        orders(new int[slips.length], 0, hints, k, found);
        Check.due("seats", x.seats(k), found.size());
        int ask = -1;
        int fewest = -1;
        for (int s = 0; s < slips.length && !found.isEmpty(); s++) {
            int[] places = new int[slips.length];
            for (int[] order : found) {
                places[placeOf(order, s)]++;
            }
            int most = Arrays.stream(places).max().getAsInt();
            int sure = most == found.size() ? placeOf(found.get(0), s) : -2;
            Check.due("sure", x.sure(s, k), sure);
            if (ask < 0 || most < fewest) {
                ask = s;
                fewest = most;
            }
        }
        Check.due("ask(0)", x.ask(0, k), ask);
        Check.due("ask(1)", x.ask(1, k), fewest);
    }
}
