import java.math.BigInteger;
import java.nio.ByteBuffer;
import java.util.ArrayDeque;
import java.util.ArrayList;
import java.util.Collections;
import java.util.Comparator;
import java.util.Deque;
import java.util.HashMap;
import java.util.HashSet;
import java.util.List;
import java.util.Map;
import java.util.Set;
import java.util.TreeMap;
import java.util.TreeSet;
import java.util.stream.Collectors;
import java.util.stream.IntStream;

/** The document written a second time, by trying all there is, to be held against the class. */
public final class Model {
    private static final int NONE = -1;
    private static final int GAP = -1000000;
    private static final Comparator<List<Integer>> BY_NUMBERS = Model::compareByNumbers;

    /** The ROW at the table with its round and SEED. */
    private record State(List<Integer> row, int round, int seed) {
    }

    /** A SLIP sat ahead of another one: TOLD at a TIME, UNTOLD at another one (null: not yet). */
    private record Hint(int ahead, int behind, int told, Integer untold) {
        boolean counts(int k) {
            return told <= k && (untold == null || untold > k);
        }
    }

    private final StringBuilder tape = new StringBuilder();
    private ModelText table = new ModelText("");
    private int fault = 0;
    private int faultPlace = NONE;
    private State now = new State(List.of(), 0, 0);
    private final Deque<State> past = new ArrayDeque<>();
    private final Deque<State> undone = new ArrayDeque<>();
    private final Map<Integer, State> boxes = new HashMap<>();
    private final List<Hint> hints = new ArrayList<>();
    private int time = 0;
    private List<Integer> lying = List.of();

    public int feed(int a, int b, int c, int d, int e) {
        if (tape.length() + 20 > 1600) {
            return NONE;
        }
        for (int number : new int[] {a, b, c, d, e}) {
            for (byte one : ByteBuffer.allocate(4).putInt(number).array()) {
                tape.append((char) (one & 255));
            }
        }
        return tape.length();
    }

    public int end(int n) {
        if (n < 0 || n > tape.length()) {
            return NONE;
        }
        tape.setLength(n);
        return n;
    }

    public int table() {
        ModelText text = new ModelText(tape.toString());
        fault = text.fault;
        faultPlace = text.faultPlace;
        if (fault != 0) {
            return NONE;
        }
        table = text;
        tape.setLength(0);
        now = new State(table.row, 0, table.draw);
        past.clear();
        undone.clear();
        hints.clear();
        lying = List.of();
        boxes.clear();
        return table.slips.size();
    }

    public int fault(int what) {
        return what == 0 ? fault : what == 1 ? faultPlace : NONE;
    }

    public int word(int place) {
        return at(now.row, place);
    }

    public int slip(int slip, int place) {
        return isSlip(slip) ? at(table.slips.get(slip), place) : NONE;
    }

    public int size(int slip) {
        return isRow(slip) ? rowOf(slip).size() : NONE;
    }

    public int worth(int word) {
        return isWord(word) ? table.worths.get(word) : NONE;
    }

    public int beside(int word, int next) {
        return isWord(word) && isWord(next) ? weight(word, next) : GAP;
    }

    public int sense(int slip) {
        return isRow(slip) ? senseOf(rowOf(slip)) : GAP;
    }

    public int miss(int place) {
        return isPlace(place) ? missAt(now.row, place) : GAP;
    }

    public int missed(int what) {
        return what == 0 || what == 1 ? placeMissed(now.row, what == 1) : NONE;
    }

    public int lacks(int slip) {
        if (!isSlip(slip)) {
            return NONE;
        }
        Set<Integer> lost = new HashSet<>(now.row);
        lost.removeAll(table.slips.get(slip));
        return lost.stream().mapToInt(word -> 1 << word).sum();
    }

    public int round(int rule) {
        if (now.row.isEmpty() || !isRule(rule) || now.round >= 999) {
            return NONE;
        }
        int word = now.row.get(placeBy(now, rule));
        act(passedOn(now, rule));
        return word;
    }

    public int leave(int place) {
        if (!isPlace(place)) {
            return NONE;
        }
        int word = now.row.get(place);
        act(new State(without(now.row, place), now.round, now.seed));
        return word;
    }

    public int put(int place, int word) {
        if (now.row.size() == 12 || !isWord(word) || place < 0 || place > now.row.size()) {
            return NONE;
        }
        act(new State(with(now.row, place, word), now.round, now.seed));
        return now.row.size();
    }

    public int change(int place, int word) {
        if (!isPlace(place) || !isWord(word) || now.row.get(place) == word) {
            return NONE;
        }
        int was = now.row.get(place);
        act(new State(with(without(now.row, place), place, word), now.round, now.seed));
        return was;
    }

    public boolean undo() {
        if (past.isEmpty()) {
            return false;
        }
        undone.push(now);
        now = past.pop();
        return true;
    }

    public boolean redo() {
        if (undone.isEmpty()) {
            return false;
        }
        past.push(now);
        now = undone.pop();
        return true;
    }

    public int ways(int slip, int from) {
        if (!isRow(slip) || !isRow(from)) {
            return NONE;
        }
        List<Integer> part = rowOf(slip);
        List<Integer> whole = rowOf(from);
        return (int) sets(whole.size()).filter(set -> leftOf(whole, set).equals(part)).count();
    }

    public int odds(int slip, int part) {
        if (!isSlip(slip) || !isPart(part) || table.slips.get(slip).size() > now.row.size()) {
            return NONE;
        }
        List<Integer> wanted = table.slips.get(slip);
        long all = 1;
        for (int size = now.row.size(); size > wanted.size(); size--) {
            all *= size;
        }
        return lowest(drawsTo(now.row, wanted, new HashMap<>()), all, part);
    }

    public int source(int slip, int other) {
        return laySource(slip, other, other);
    }

    public int sources(int slip, int other) {
        if (!isSlip(slip) || !isSlip(other)) {
            return NONE;
        }
        return allSources(table.slips.get(slip), table.slips.get(other), table.slips.get(other)).count;
    }

    public int three(int a, int b, int c) {
        return laySource(a, b, c);
    }

    public int common(int slip, int other) {
        lying = List.of();
        if (!isSlip(slip) || !isSlip(other)) {
            return NONE;
        }
        Set<List<Integer>> shared = parts(table.slips.get(slip));
        shared.retainAll(parts(table.slips.get(other)));
        int longest = shared.stream().mapToInt(List::size).max().orElse(0);
        lying = shared.stream().filter(row -> row.size() == longest).min(BY_NUMBERS).orElse(List.of());
        return longest;
    }

    public int keep(int n, int what) {
        lying = List.of();
        if (!canBeLeftOut(n) || !isPart(what)) {
            return GAP;
        }
        int sign = what == 0 ? -1 : 1;
        lying = choices(now.row.size(), n).stream()
            .min(Comparator.<List<Integer>>comparingInt(set -> sign * senseWithout(set)).thenComparing(BY_NUMBERS))
            .orElse(List.of());
        return senseWithout(lying);
    }

    public int mean(int n, int part) {
        if (!canBeLeftOut(n) || !isPart(part)) {
            return GAP;
        }
        List<List<Integer>> all = choices(now.row.size(), n);
        return lowest(all.stream().mapToInt(this::senseWithout).sum(), all.size(), part);
    }

    public int duel(int n, int what) {
        if (n < 1 || n > 4 || n > now.row.size() || !isPart(what)) {
            return GAP;
        }
        int best = playOn(now.row, n, true);
        if (what == 0) {
            return best;
        }
        return IntStream.range(0, now.row.size())
            .filter(place -> playOn(without(now.row, place), n - 1, false) == best).findFirst().orElse(GAP);
    }

    public int apart(int slip, int other) {
        return isRow(slip) && isRow(other) ? edits(rowOf(slip), rowOf(other), new HashMap<>()) : NONE;
    }

    public int strange(int slip) {
        if (!isSlip(slip)) {
            return NONE;
        }
        List<Integer> line = table.slips.get(slip);
        Set<List<Integer>> left = parts(line);
        left.retainAll(parts(now.row));
        return left.stream().mapToInt(part -> line.size() - part.size()).min().orElse(NONE);
    }

    public int becomes(int rule, int slip) {
        if (!isRule(rule) || !isSlip(slip)) {
            return NONE;
        }
        List<List<Integer>> rows = rowsToCome(rule);
        return rows.indexOf(table.slips.get(slip));
    }

    public int will(int rule, int n) {
        if (!isRule(rule) || n < 0 || n > 12) {
            return GAP;
        }
        List<List<Integer>> rows = rowsToCome(rule);
        return senseOf(rows.get(Math.min(n, rows.size() - 1)));
    }

    public int last(int rule) {
        if (!isRule(rule) || now.row.isEmpty()) {
            return NONE;
        }
        List<List<Integer>> rows = rowsToCome(rule);
        return rows.get(rows.size() - 2).get(0);
    }

    public int mark(int slip) {
        return isRow(slip) ? markOf(rowOf(slip)) : NONE;
    }

    public int mended(int slip, int mark) {
        lying = List.of();
        if (!isSlip(slip) || mark < 0 || mark > 99) {
            return NONE;
        }
        TreeSet<List<Integer>> rows = mendings(table.slips.get(slip), mark);
        lying = rows.isEmpty() ? List.of() : rows.first();
        return rows.size();
    }

    public int safe() {
        return IntStream.range(0, now.row.size())
            .filter(place -> mendings(without(now.row, place), markOf(now.row)).equals(Set.of(now.row)))
            .map(place -> 1 << place).sum();
    }

    public int sittings() {
        List<List<Integer>> all = allSittings();
        lying = all.isEmpty() ? List.of() : all.get(0);
        return all.size();
    }

    public int comes(int slip) {
        if (!isSlip(slip)) {
            return NONE;
        }
        Set<List<Integer>> coming = parts(table.slips.get(slip));
        return IntStream.range(0, table.slips.size()).filter(other -> coming.contains(table.slips.get(other)))
            .map(other -> 1 << other).sum();
    }

    public int lies(int i) {
        return at(lying, i);
    }

    public int hint(int slip, int other, boolean isAhead) {
        if (!isSlip(slip) || !isSlip(other) || slip == other || hints.size() == 30) {
            return NONE;
        }
        hints.add(isAhead ? new Hint(slip, other, time, null) : new Hint(other, slip, time, null));
        return hints.size() - 1;
    }

    public boolean untell(int hint) {
        if (hint < 0 || hint >= hints.size() || hints.get(hint).untold != null) {
            return false;
        }
        Hint old = hints.get(hint);
        hints.set(hint, new Hint(old.ahead, old.behind, old.told, time));
        return true;
    }

    public int later(int by) {
        if (by < 0 || by > 1000 || time + by > 100000) {
            return NONE;
        }
        time += by;
        return time;
    }

    public int seats(int k) {
        return seatings(k).size();
    }

    public int sure(int slip, int k) {
        if (!isSlip(slip)) {
            return NONE;
        }
        Set<Integer> places = seatings(k).stream().map(order -> order.indexOf(slip)).collect(Collectors.toSet());
        return places.isEmpty() ? NONE : places.size() > 1 ? -2 : places.iterator().next();
    }

    public int ask(int what, int k) {
        List<List<Integer>> all = seatings(k);
        if (all.isEmpty() || table.slips.isEmpty() || !isPart(what)) {
            return NONE;
        }
        List<Integer> most = IntStream.range(0, table.slips.size()).mapToObj(slip -> mostLeft(all, slip)).toList();
        int least = Collections.min(most);
        return what == 1 ? least : most.indexOf(least);
    }

    public int image(int box) {
        if (box < 0 || box > 2) {
            return NONE;
        }
        boxes.put(box, now);
        return now.round;
    }

    public int back(int box) {
        if (!boxes.containsKey(box)) {
            return NONE;
        }
        now = boxes.get(box);
        past.clear();
        undone.clear();
        return now.round;
    }

    public int about(int what) {
        int[] all = {table.slips.size(), table.worths.size(), now.row.size(), now.round, now.seed,
            table.besides.size(), past.size(), undone.size(), hints.size(), time, tape.length(), table.units,
            lying.size()};
        return what >= 0 && what < all.length ? all[what] : NONE;
    }

    private boolean isWord(int word) {
        return word >= 0 && word < table.worths.size();
    }

    private boolean isSlip(int slip) {
        return slip >= 0 && slip < table.slips.size();
    }

    private boolean isRow(int slip) {
        return slip == NONE || isSlip(slip);
    }

    private List<Integer> rowOf(int slip) {
        return slip == NONE ? now.row : table.slips.get(slip);
    }

    private boolean isPlace(int place) {
        return place >= 0 && place < now.row.size();
    }

    private static boolean isRule(int rule) {
        return rule == 0 || rule == 1 || rule == 2;
    }

    private static boolean isPart(int part) {
        return part == 0 || part == 1;
    }

    private static int at(List<Integer> row, int place) {
        return place >= 0 && place < row.size() ? row.get(place) : NONE;
    }

    private static List<Integer> without(List<Integer> row, int place) {
        List<Integer> left = new ArrayList<>(row);
        left.remove(place);
        return left;
    }

    private static List<Integer> with(List<Integer> row, int place, int word) {
        List<Integer> more = new ArrayList<>(row);
        more.add(place, word);
        return more;
    }

    private static int compareByNumbers(List<Integer> one, List<Integer> two) {
        for (int i = 0; i < Math.min(one.size(), two.size()); i++) {
            if (!one.get(i).equals(two.get(i))) {
                return one.get(i) - two.get(i);
            }
        }
        return one.size() - two.size();
    }

    private int weight(int word, int next) {
        return table.besides.getOrDefault(List.of(word, next), 0);
    }

    private int senseOf(List<Integer> row) {
        return IntStream.range(1, row.size()).map(i -> weight(row.get(i - 1), row.get(i))).sum();
    }

    private int markOf(List<Integer> row) {
        return IntStream.range(0, row.size()).map(i -> (i + 1) * table.worths.get(row.get(i))).sum() % 100;
    }

    private int missAt(List<Integer> row, int place) {
        int word = row.get(place);
        if (table.miss == null) {
            return table.worths.get(word);
        }
        Map<String, Integer> known = new HashMap<>();
        known.put("worth", table.worths.get(word));
        known.put("place", place);
        known.put("size", row.size());
        known.put("times", Collections.frequency(row, word));
        known.put("left", place == 0 ? 0 : weight(row.get(place - 1), word));
        known.put("right", place == row.size() - 1 ? 0 : weight(word, row.get(place + 1)));
        return table.miss.applyAsInt(known);
    }

    private int placeMissed(List<Integer> row, boolean isMost) {
        List<Integer> misses = IntStream.range(0, row.size()).mapToObj(place -> missAt(row, place)).toList();
        if (misses.isEmpty()) {
            return NONE;
        }
        return misses.indexOf(isMost ? Collections.max(misses) : Collections.min(misses));
    }

    private int placeBy(State state, int rule) {
        return rule == 0 ? drawn(state) % state.row.size() : placeMissed(state.row, rule == 2);
    }

    private static int drawn(State state) {
        return (state.seed * 137 + 71) % 1000;
    }

    private State passedOn(State state, int rule) {
        List<Integer> left = without(state.row, placeBy(state, rule));
        return new State(left, state.round + 1, rule == 0 ? drawn(state) : state.seed);
    }

    private void act(State next) {
        past.push(now);
        if (past.size() > 40) {
            past.removeLast();
        }
        undone.clear();
        now = next;
    }

    /** The ROW now and behind each ROUND, up to the one without a WORD. */
    private List<List<Integer>> rowsToCome(int rule) {
        List<List<Integer>> rows = new ArrayList<>(List.of(now.row));
        for (State state = now; !state.row.isEmpty(); ) {
            state = passedOn(state, rule);
            rows.add(state.row);
        }
        return rows;
    }

    private static IntStream sets(int size) {
        return IntStream.range(0, 1 << size);
    }

    private static List<Integer> leftOf(List<Integer> row, int set) {
        List<Integer> left = new ArrayList<>();
        for (int i = 0; i < row.size(); i++) {
            if ((set >> i & 1) == 0) {
                left.add(row.get(i));
            }
        }
        return left;
    }

    /** All ROWS that COME from this one. */
    private static Set<List<Integer>> parts(List<Integer> row) {
        return sets(row.size()).mapToObj(set -> leftOf(row, set)).collect(Collectors.toSet());
    }

    /** In how many orders of drawn PLACES a ROW is left. */
    private static long drawsTo(List<Integer> row, List<Integer> wanted, Map<List<Integer>, Long> known) {
        if (row.size() == wanted.size()) {
            return row.equals(wanted) ? 1 : 0;
        }
        Long found = known.get(row);
        if (found == null) {
            found = 0L;
            for (int place = 0; place < row.size(); place++) {
                found += drawsTo(without(row, place), wanted, known);
            }
            known.put(row, found);
        }
        return found;
    }

    private static int lowest(long upper, long lower, int part) {
        long shared = BigInteger.valueOf(upper).gcd(BigInteger.valueOf(lower)).longValue();
        return (int) ((part == 0 ? upper : lower) / shared);
    }

    /** ROWS of one length that lead to one state of three: the first of them, and how many. */
    private record Found(List<Integer> first, int count) {
    }

    /** Goes on WORD by WORD until all three SLIPS are within; a state is how much of each is. */
    private Found allSources(List<Integer> one, List<Integer> two, List<Integer> three) {
        List<Integer> wanted = List.of(one.size(), two.size(), three.size());
        Map<List<Integer>, Found> reached = Map.of(List.of(0, 0, 0), new Found(List.of(), 1));
        while (!reached.containsKey(wanted)) {
            Map<List<Integer>, Found> next = new HashMap<>();
            for (Map.Entry<List<Integer>, Found> entry : reached.entrySet()) {
                for (int word = 0; word < table.worths.size(); word++) {
                    List<Integer> seen = entry.getKey();
                    List<Integer> state = List.of(goOn(one, seen.get(0), word), goOn(two, seen.get(1), word),
                        goOn(three, seen.get(2), word));
                    Found old = entry.getValue();
                    next.merge(state, new Found(with(old.first, old.first.size(), word), old.count),
                        (a, b) -> new Found(BY_NUMBERS.compare(a.first, b.first) < 0 ? a.first : b.first,
                            a.count + b.count));
                }
            }
            reached = next;
        }
        return reached.get(wanted);
    }

    private static int goOn(List<Integer> row, int seen, int word) {
        return at(row, seen) == word ? seen + 1 : seen;
    }

    private int laySource(int a, int b, int c) {
        lying = List.of();
        if (!isSlip(a) || !isSlip(b) || !isSlip(c)) {
            return NONE;
        }
        lying = allSources(table.slips.get(a), table.slips.get(b), table.slips.get(c)).first;
        return lying.size();
    }

    private boolean canBeLeftOut(int n) {
        return n >= 0 && n <= 4 && n < now.row.size();
    }

    /** All sets of n PLACES. */
    private static List<List<Integer>> choices(int size, int n) {
        return sets(size).filter(set -> Integer.bitCount(set) == n)
            .mapToObj(set -> IntStream.range(0, size).filter(i -> (set >> i & 1) == 1).boxed().toList()).toList();
    }

    private int senseWithout(List<Integer> places) {
        return senseOf(IntStream.range(0, now.row.size()).filter(i -> !places.contains(i))
            .mapToObj(i -> now.row.get(i)).toList());
    }

    private int playOn(List<Integer> row, int turns, boolean isFirst) {
        if (turns == 0) {
            return senseOf(row);
        }
        IntStream outcomes = IntStream.range(0, row.size())
            .map(place -> playOn(without(row, place), turns - 1, !isFirst));
        return (isFirst ? outcomes.max() : outcomes.min()).orElse(0);
    }

    /** The first WORD of the one is left out, or changed, or the other one's first is put in. */
    private static int edits(List<Integer> one, List<Integer> two, Map<List<Integer>, Integer> known) {
        if (one.isEmpty() || two.isEmpty()) {
            return one.size() + two.size();
        }
        List<Integer> key = List.of(one.size(), two.size());
        if (!known.containsKey(key)) {
            List<Integer> ones = one.subList(1, one.size());
            List<Integer> twos = two.subList(1, two.size());
            int changed = edits(ones, twos, known) + (one.get(0).equals(two.get(0)) ? 0 : 1);
            int other = 1 + Math.min(edits(ones, two, known), edits(one, twos, known));
            known.put(key, Math.min(changed, other));
        }
        return known.get(key);
    }

    private TreeSet<List<Integer>> mendings(List<Integer> line, int mark) {
        TreeSet<List<Integer>> rows = new TreeSet<>(BY_NUMBERS);
        for (int place = 0; place <= line.size(); place++) {
            for (int word = 0; word < table.worths.size(); word++) {
                List<Integer> row = with(line, place, word);
                if (markOf(row) == mark) {
                    rows.add(row);
                }
            }
        }
        return rows;
    }

    /** In the order of their numbers, from the beginning on. */
    private List<List<Integer>> allSittings() {
        List<List<Integer>> orders = new ArrayList<>(List.of(List.of()));
        for (int seat = 0; seat < table.slips.size(); seat++) {
            List<List<Integer>> longer = new ArrayList<>();
            for (List<Integer> order : orders) {
                for (int slip = 0; slip < table.slips.size(); slip++) {
                    if (!order.contains(slip)) {
                        longer.add(with(order, seat, slip));
                    }
                }
            }
            orders = longer;
        }
        int[] coming = IntStream.range(0, table.slips.size()).map(this::comes).toArray();
        orders.removeIf(order -> !IntStream.range(1, order.size())
            .allMatch(i -> (coming[order.get(i - 1)] >> order.get(i) & 1) == 1));
        return orders;
    }

    private List<List<Integer>> seatings(int k) {
        return allSittings().stream().filter(order -> hints.stream()
            .allMatch(hint -> !hint.counts(k) || order.indexOf(hint.ahead) < order.indexOf(hint.behind))).toList();
    }

    private static int mostLeft(List<List<Integer>> orders, int slip) {
        Map<Integer, Integer> counts = new TreeMap<>();
        orders.forEach(order -> counts.merge(order.indexOf(slip), 1, Integer::sum));
        return Collections.max(counts.values());
    }
}
