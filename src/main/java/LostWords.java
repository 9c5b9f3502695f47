import java.util.Arrays;

/** A sentence that goes round a table by ear, each time without one word; see README.md. */
public final class LostWords {
    public static final int NONE = -1;
    public static final int GAP = -1000000;

    private static final int MAX_TAPE = 1600;
    private static final int MAX_WORDS = 9;
    private static final int MAX_BESIDES = 20;
    private static final int MAX_ROW = 12;
    private static final int MAX_SLIPS = 5;
    private static final int MAX_SLIP = 8;
    private static final int MAX_LEFT_OUT = 4;
    private static final int MAX_MARK = 99;
    private static final int MAX_LATER = 1000;
    private static final int BOXES = 3;
    private static final int RULES = 3;
    private static final int BY_DRAW = 0;
    private static final int BY_MOST_MISSED = 2;

    private final Reader reader;
    private final Play play;
    private final Pairs pairs;
    private final Losses losses;
    private final Mender mender;
    private final Seating seating;
    private final Line lying;
    private final Line nobody;
    private Told told;

    public LostWords() {
        reader = new Reader();
        play = new Play();
        pairs = new Pairs();
        losses = new Losses();
        mender = new Mender();
        seating = new Seating();
        lying = new Line(3 * MAX_SLIP);
        nobody = new Line(0);
        told = new Told();
    }

    public int feed(int a, int b, int c, int d, int e) {
        Tape tape = reader.tape;
        if (!tape.hasRoom(20)) {
            return NONE;
        }
        tape.append(a);
        tape.append(b);
        tape.append(c);
        tape.append(d);
        tape.append(e);
        return tape.length;
    }

    public int end(int n) {
        if (n < 0 || n > reader.tape.length) {
            return NONE;
        }
        reader.tape.length = n;
        return n;
    }

    public int table() {
        if (!reader.readTable()) {
            return NONE;
        }
        told = reader.handOver(told);
        reader.tape.length = 0;
        lying.clear();
        play.open(told);
        seating.open(told, pairs);
        return told.slipCount;
    }

    public int fault(int what) {
        switch (what) {
            case 0: return reader.fault;
            case 1: return reader.place;
            default: return NONE;
        }
    }

    public int word(int place) {
        return play.now.row.at(place);
    }

    public int slip(int slip, int place) {
        Line line = slipOf(slip);
        return line == null ? NONE : line.at(place);
    }

    public int size(int slip) {
        Line line = lineOf(slip);
        return line == null ? NONE : line.count;
    }

    public int worth(int word) {
        return told.hasWord(word) ? told.worthOf(word) : NONE;
    }

    public int beside(int word, int next) {
        return told.hasWord(word) && told.hasWord(next) ? told.weightOf(word, next) : GAP;
    }

    public int sense(int slip) {
        Line line = lineOf(slip);
        return line == null ? GAP : told.senseOf(line);
    }

    public int miss(int place) {
        Line row = play.now.row;
        return row.has(place) ? told.missOf(row, place) : GAP;
    }

    public int missed(int what) {
        if (what != 0 && what != 1) {
            return NONE;
        }
        return told.placeMissed(play.now.row, what == 1);
    }

    public int lacks(int slip) {
        Line line = slipOf(slip);
        return line == null ? NONE : play.now.row.bits() & ~line.bits();
    }

    public int round(int rule) {
        return isRule(rule) ? play.passOn(told, rule) : NONE;
    }

    public int leave(int place) {
        return play.dropAt(place);
    }

    public int put(int place, int word) {
        return told.hasWord(word) ? play.insertAt(place, word) : NONE;
    }

    public int change(int place, int word) {
        return told.hasWord(word) ? play.replaceAt(place, word) : NONE;
    }

    public boolean undo() {
        return play.takeBack();
    }

    public boolean redo() {
        return play.doAgain();
    }

    public int ways(int slip, int from) {
        Line part = lineOf(slip);
        Line whole = lineOf(from);
        return part == null || whole == null ? NONE : pairs.countWays(part, whole);
    }

    public int odds(int slip, int part) {
        Line line = slipOf(slip);
        Line row = play.now.row;
        if (line == null || !isPart(part) || line.count > row.count) {
            return NONE;
        }
        // An even draw in each ROUND makes every set of PLACES left out alike likely.
        return lowest(pairs.countWays(line, row), choices(row.count, line.count), part);
    }

    public int source(int slip, int other) {
        return layShortest(slipOf(slip), slipOf(other), nobody);
    }

    public int sources(int slip, int other) {
        Line first = slipOf(slip);
        Line second = slipOf(other);
        return first == null || second == null ? NONE : pairs.countShortest(first, second, nobody);
    }

    public int three(int a, int b, int c) {
        return layShortest(slipOf(a), slipOf(b), slipOf(c));
    }

    public int common(int slip, int other) {
        lying.clear();
        Line first = slipOf(slip);
        Line second = slipOf(other);
        if (first == null || second == null) {
            return NONE;
        }
        pairs.layLongest(first, second, lying);
        return lying.count;
    }

    public int keep(int n, int what) {
        lying.clear();
        if (!canLeaveOut(n) || !isPart(what)) {
            return GAP;
        }
        return losses.layBest(told, play.now.row, n, what == 0, lying);
    }

    public int mean(int n, int part) {
        if (!canLeaveOut(n) || !isPart(part)) {
            return GAP;
        }
        Line row = play.now.row;
        return lowest(losses.sumOfSenses(told, row, n), choices(row.count, n), part);
    }

    public int duel(int n, int what) {
        Line row = play.now.row;
        if (n < 1 || n > MAX_LEFT_OUT || n > row.count || !isPart(what)) {
            return GAP;
        }
        losses.playDuel(told, row, n);
        return what == 0 ? losses.duelSense() : losses.duelPlace(row);
    }

    public int apart(int slip, int other) {
        Line first = lineOf(slip);
        Line second = lineOf(other);
        return first == null || second == null ? NONE : pairs.countEdits(first, second);
    }

    public int strange(int slip) {
        Line line = slipOf(slip);
        return line == null ? NONE : line.count - pairs.lengthOfLongest(line, play.now.row);
    }

    public int becomes(int rule, int slip) {
        Line line = slipOf(slip);
        return line == null || !isRule(rule) ? NONE : play.roundsUntil(told, rule, line);
    }

    public int will(int rule, int n) {
        if (!isRule(rule) || n < 0 || n > MAX_ROW) {
            return GAP;
        }
        return told.senseOf(play.rowAfter(told, rule, n));
    }

    public int last(int rule) {
        int rounds = play.now.row.count - 1;
        if (!isRule(rule) || rounds < 0) {
            return NONE;
        }
        return play.rowAfter(told, rule, rounds).at(0);
    }

    public int mark(int slip) {
        Line line = lineOf(slip);
        return line == null ? NONE : told.markOf(line);
    }

    public int mended(int slip, int mark) {
        lying.clear();
        Line line = slipOf(slip);
        if (line == null || mark < 0 || mark > MAX_MARK) {
            return NONE;
        }
        return mender.layMended(told, line, mark, lying);
    }

    public int safe() {
        return mender.safePlaces(told, play.now.row);
    }

    public int sittings() {
        lying.clear();
        int count = seating.countUnhinted();
        if (count > 0) {
            lying.copy(seating.firstOrder);
        }
        return count;
    }

    public int comes(int slip) {
        return slipOf(slip) == null ? NONE : seating.comingFrom(slip);
    }

    public int lies(int i) {
        return lying.at(i);
    }

    public int hint(int slip, int other, boolean isAhead) {
        if (slipOf(slip) == null || slipOf(other) == null || slip == other) {
            return NONE;
        }
        return isAhead ? seating.tell(slip, other) : seating.tell(other, slip);
    }

    public boolean untell(int hint) {
        return seating.untellNow(hint);
    }

    public int later(int by) {
        return by < 0 || by > MAX_LATER ? NONE : seating.goOn(by);
    }

    public int seats(int k) {
        return seating.countKnown(k);
    }

    public int sure(int slip, int k) {
        if (slipOf(slip) == null || seating.countKnown(k) == 0) {
            return NONE;
        }
        return seating.surePlace(slip);
    }

    public int ask(int what, int k) {
        if (!isPart(what) || told.slipCount == 0 || seating.countKnown(k) == 0) {
            return NONE;
        }
        int slip = seating.slipToAsk();
        return what == 0 ? slip : seating.mostLeft(slip);
    }

    public int image(int box) {
        return play.keepIn(box);
    }

    public int back(int box) {
        return play.bringBack(box);
    }

    public int about(int what) {
        switch (what) {
            case 0: return told.slipCount;
            case 1: return told.wordCount;
            case 2: return play.now.row.count;
            case 3: return play.now.round;
            case 4: return play.now.seed;
            case 5: return told.pairCount;
            case 6: return play.actsDone();
            case 7: return play.actsTakenBack();
            case 8: return seating.hintCount;
            case 9: return seating.time;
            case 10: return reader.tape.length;
            case 11: return told.formula.units;
            case 12: return lying.count;
            default: return NONE;
        }
    }

    private int layShortest(Line first, Line second, Line third) {
        lying.clear();
        if (first == null || second == null || third == null) {
            return NONE;
        }
        pairs.layShortest(first, second, third, lying);
        return lying.count;
    }

    private Line slipOf(int slip) {
        return told.slipAt(slip);
    }

    private Line lineOf(int slip) {
        return slip == NONE ? play.now.row : told.slipAt(slip);
    }

    private boolean canLeaveOut(int n) {
        return n >= 0 && n <= MAX_LEFT_OUT && n < play.now.row.count;
    }

    private static boolean isRule(int rule) {
        return rule >= 0 && rule < RULES;
    }

    private static boolean isPart(int part) {
        return part == 0 || part == 1;
    }

    private static int lowest(int upper, int lower, int part) {
        int shared = greatestDivisor(Math.abs(upper), Math.abs(lower));
        int number = part == 0 ? upper : lower;
        return shared == 0 ? number : number / shared;
    }

    private static int greatestDivisor(int one, int two) {
        int larger = one;
        int smaller = two;
        // Euclid halves the numbers every second step, so 64 steps are more than an int needs.
        for (int step = 0; step < 64 && smaller != 0; step++) {
            int rest = larger % smaller;
            larger = smaller;
            smaller = rest;
        }
        return larger;
    }

    private static int choices(int all, int some) {
        int count = 1;
        for (int i = 1; i <= some; i++) {
            count = count * (all - some + i) / i;
        }
        return count;
    }

    /** A row of numbers (WORDS, PLACES or SLIPS) with room for so many. */
    static final class Line {
        private final int[] items;
        private int count;

        Line(int room) {
            items = new int[Math.max(room, 0)];
            count = 0;
        }

        boolean has(int place) {
            return place >= 0 && place < count && place < items.length;
        }

        int at(int place) {
            return place >= 0 && place < count && place < items.length ? items[place] : NONE;
        }

        boolean hasRoom() {
            return count >= 0 && count < items.length;
        }

        void clear() {
            count = 0;
        }

        void add(int item) {
            if (hasRoom()) {
                items[count] = item;
                count++;
            }
        }

        void insert(int place, int item) {
            if (!hasRoom() || place < 0 || place > count) {
                return;
            }
            for (int i = count; i > place; i--) {
                items[i] = items[i - 1];
            }
            items[place] = item;
            count++;
        }

        int drop(int place) {
            if (!has(place)) {
                return NONE;
            }
            int item = items[place];
            for (int i = place + 1; i < count && i < items.length; i++) {
                items[i - 1] = items[i];
            }
            count--;
            return item;
        }

        int replace(int place, int item) {
            if (!has(place)) {
                return NONE;
            }
            int old = items[place];
            items[place] = item;
            return old;
        }

        void copy(Line other) {
            clear();
            for (int i = 0; i < other.count; i++) {
                add(other.at(i));
            }
        }

        boolean isLike(Line other) {
            if (count != other.count) {
                return false;
            }
            for (int i = 0; i < count; i++) {
                if (at(i) != other.at(i)) {
                    return false;
                }
            }
            return true;
        }

        int countOf(int item) {
            int found = 0;
            for (int i = 0; i < count; i++) {
                if (at(i) == item) {
                    found++;
                }
            }
            return found;
        }

        /** The first place of an item from a place on; how many there are, if there is none. */
        int find(int item, int from) {
            for (int i = Math.max(from, 0); i < count; i++) {
                if (at(i) == item) {
                    return i;
                }
            }
            return count;
        }

        int bits() {
            int bits = 0;
            for (int i = 0; i < count; i++) {
                bits |= 1 << at(i);
            }
            return bits;
        }
    }

    /** The bytes that were fed, and the TOKEN of them that is looked at. */
    static final class Tape {
        static final int END = -1;
        static final int BAD = 1;
        static final int NUMBER = '0';
        static final int NAME = 'a';
        static final int KEY_WORD = 256;
        static final int KEY_BESIDE = 257;
        static final int KEY_ROW = 258;
        static final int KEY_SLIP = 259;
        static final int KEY_MISS = 260;
        static final int KEY_DRAW = 261;
        static final int KEY_OR = 262;
        static final int KEY_AND = 263;
        static final int KEY_NOT = 264;
        static final int KEY_WORTH = 265;
        static final int KEY_PLACE = 266;
        static final int KEY_SIZE = 267;
        static final int KEY_TIMES = 268;
        static final int KEY_LEFT = 269;
        static final int KEY_RIGHT = 270;
        // In the order of their numbers above.
        private static final String KEYS =
            "word beside row slip miss draw or and not worth place size times left right";
        private static final String SIGNS = ";()<>=+-*/%";
        private static final int MAX_LETTERS = 8;
        private static final int MAX_DIGITS = 4;

        private final byte[] text;
        private final long[] keys;
        private int length;
        private int next;
        private int kind;
        private int start;
        private int number;
        private long name;

        Tape() {
            text = new byte[MAX_TAPE];
            keys = new long[KEY_RIGHT - KEY_WORD + 1];
            int key = 0;
            for (int i = 0; i < KEYS.length(); i++) {
                char letter = KEYS.charAt(i);
                if (letter == ' ') {
                    key++;
                } else if (key < keys.length) {
                    keys[key] = keys[key] << 8 | letter;
                }
            }
        }

        boolean hasRoom(int bytes) {
            return length + bytes <= text.length;
        }

        void append(int four) {
            for (int shift = 24; shift >= 0; shift -= 8) {
                if (length >= 0 && length < text.length) {
                    text[length] = (byte) (four >>> shift);
                    length++;
                }
            }
        }

        void rewind() {
            next = 0;
            advance();
        }

        void advance() {
            skipBlanks();
            start = next;
            int sign = signAt(next);
            if (isLetter(sign)) {
                readLetters();
            } else if (isDigit(sign)) {
                readDigits();
            } else if (sign == END) {
                kind = END;
            } else {
                next++;
                kind = SIGNS.indexOf((char) sign) >= 0 ? sign : BAD;
            }
        }

        private void skipBlanks() {
            while (next < length && isBlank(signAt(next))) {
                next++;
            }
        }

        private void readLetters() {
            name = 0;
            while (next < length && isLetter(signAt(next))) {
                name = name << 8 | signAt(next);
                next++;
            }
            kind = next - start > MAX_LETTERS ? BAD : kindOfName();
        }

        private int kindOfName() {
            for (int key = 0; key < keys.length; key++) {
                if (keys[key] == name) {
                    return KEY_WORD + key;
                }
            }
            return NAME;
        }

        private void readDigits() {
            number = 0;
            while (next < length && isDigit(signAt(next))) {
                number = number * 10 + signAt(next) - '0';
                next++;
            }
            boolean isWhole = next - start <= MAX_DIGITS && !isLetter(signAt(next));
            kind = isWhole ? NUMBER : BAD;
        }

        private int signAt(int place) {
            return place >= 0 && place < length && place < text.length ? text[place] & 255 : END;
        }

        private static boolean isBlank(int sign) {
            return sign == 32 || sign == 10;
        }

        private static boolean isLetter(int sign) {
            return sign >= 'a' && sign <= 'z';
        }

        private static boolean isDigit(int sign) {
            return sign >= '0' && sign <= '9';
        }

        static boolean isKnownKey(int kind) {
            return kind >= KEY_WORTH && kind <= KEY_RIGHT;
        }
    }

    /** What is behind miss, operands ahead of what joins them. */
    static final class Formula {
        // 30 units, what joins them, and 7 nots at most ahead of each stay below this.
        private static final int MAX_STEPS = 512;
        private static final int MAX_STACK = 64;

        private final int[] steps;
        private final int[] numbers;
        private final int[] stack;
        private final int[] known;
        private int stepCount;
        private int depth;
        private int units;
        private boolean isTold;

        Formula() {
            steps = new int[MAX_STEPS];
            numbers = new int[MAX_STEPS];
            stack = new int[MAX_STACK];
            known = new int[Tape.KEY_RIGHT - Tape.KEY_WORTH + 1];
        }

        void clear() {
            stepCount = 0;
            units = 0;
            isTold = false;
        }

        void add(int step, int number) {
            if (stepCount < steps.length && stepCount < numbers.length) {
                steps[stepCount] = step;
                numbers[stepCount] = number;
                stepCount++;
            }
        }

        void know(int key, int value) {
            int index = key - Tape.KEY_WORTH;
            if (index >= 0 && index < known.length) {
                known[index] = value;
            }
        }

        int result() {
            depth = 0;
            for (int i = 0; i < stepCount && i < MAX_STEPS; i++) {
                int step = steps[i];
                if (step == Tape.NUMBER) {
                    push(numbers[i]);
                } else if (Tape.isKnownKey(step)) {
                    push(known[step - Tape.KEY_WORTH]);
                } else if (step == Tape.KEY_NOT) {
                    push(truth(pop() == 0));
                } else {
                    int right = pop();
                    int left = pop();
                    push(joined(step, left, right));
                }
            }
            return pop();
        }

        private void push(int value) {
            if (depth >= 0 && depth < stack.length) {
                stack[depth] = value;
                depth++;
            }
        }

        private int pop() {
            if (depth < 1 || depth > stack.length) {
                return 0;
            }
            depth--;
            return stack[depth];
        }

        private static int joined(int step, int left, int right) {
            switch (step) {
                case '+': return left + right;
                case '-': return left - right;
                case '*': return left * right;
                case '/': return right == 0 ? 0 : left / right;
                case '%': return right == 0 ? 0 : left % right;
                case '<': return truth(left < right);
                case '>': return truth(left > right);
                case '=': return truth(left == right);
                case Tape.KEY_AND: return truth(left != 0 && right != 0);
                case Tape.KEY_OR: return truth(left != 0 || right != 0);
                default: return 0;
            }
        }

        private static int truth(boolean isSo) {
            return isSo ? 1 : 0;
        }
    }

    /** What a TABLE tells. */
    static final class Told {
        private final long[] names;
        private final int[] worths;
        private final int[] weights;
        private final boolean[] isPaired;
        private final Line row;
        private final Line[] slips;
        private final Formula formula;
        private int wordCount;
        private int pairCount;
        private int slipCount;
        private int draw;
        private boolean isDrawTold;

        Told() {
            names = new long[MAX_WORDS];
            worths = new int[MAX_WORDS];
            weights = new int[MAX_WORDS * MAX_WORDS];
            isPaired = new boolean[MAX_WORDS * MAX_WORDS];
            row = new Line(MAX_ROW);
            slips = new Line[MAX_SLIPS];
            for (int i = 0; i < slips.length; i++) {
                slips[i] = new Line(MAX_SLIP);
            }
            formula = new Formula();
        }

        void clear() {
            wordCount = 0;
            pairCount = 0;
            slipCount = 0;
            draw = 0;
            isDrawTold = false;
            row.clear();
            formula.clear();
            Arrays.fill(weights, 0);
            for (int i = 0; i < isPaired.length; i++) {
                isPaired[i] = false;
            }
        }

        boolean hasWord(int word) {
            return word >= 0 && word < wordCount && word < MAX_WORDS;
        }

        int wordNamed(long name) {
            for (int word = 0; word < wordCount && word < names.length; word++) {
                if (names[word] == name) {
                    return word;
                }
            }
            return NONE;
        }

        void addWord(long name, int worth) {
            if (wordCount < MAX_WORDS) {
                names[wordCount] = name;
                worths[wordCount] = worth;
                wordCount++;
            }
        }

        boolean isPairTold(int first, int second) {
            return hasWord(first) && hasWord(second) && isPaired[first * MAX_WORDS + second];
        }

        void addPair(int first, int second, int weight) {
            if (hasWord(first) && hasWord(second)) {
                isPaired[first * MAX_WORDS + second] = true;
                weights[first * MAX_WORDS + second] = weight;
                pairCount++;
            }
        }

        /** The ROW, empty so far; null if it was told already. */
        Line addRow() {
            return row.count > 0 ? null : row;
        }

        /** The next SLIP, empty so far; null if there are as many as can be. */
        Line addSlip() {
            if (slipCount >= slips.length) {
                return null;
            }
            Line slip = slips[slipCount];
            slip.clear();
            slipCount++;
            return slip;
        }

        Line slipAt(int slip) {
            return slip >= 0 && slip < slipCount && slip < slips.length ? slips[slip] : null;
        }

        int worthOf(int word) {
            return hasWord(word) ? worths[word] : 0;
        }

        int weightOf(int first, int second) {
            return hasWord(first) && hasWord(second) ? weights[first * MAX_WORDS + second] : 0;
        }

        int senseOf(Line line) {
            int sense = 0;
            for (int i = 1; i < line.count; i++) {
                sense += weightOf(line.at(i - 1), line.at(i));
            }
            return sense;
        }

        int markOf(Line line) {
            int mark = 0;
            for (int i = 0; i < line.count; i++) {
                mark += (i + 1) * worthOf(line.at(i));
            }
            return mark % (MAX_MARK + 1);
        }

        int missOf(Line line, int place) {
            int word = line.at(place);
            if (!formula.isTold) {
                return worthOf(word);
            }
            formula.know(Tape.KEY_WORTH, worthOf(word));
            formula.know(Tape.KEY_PLACE, place);
            formula.know(Tape.KEY_SIZE, line.count);
            formula.know(Tape.KEY_TIMES, line.countOf(word));
            // Without a WORD on that side at() answers NONE, of which nothing is told: 0.
            formula.know(Tape.KEY_LEFT, weightOf(line.at(place - 1), word));
            formula.know(Tape.KEY_RIGHT, weightOf(word, line.at(place + 1)));
            return formula.result();
        }

        int placeMissed(Line line, boolean isMost) {
            int found = NONE;
            int best = 0;
            for (int place = 0; place < line.count; place++) {
                int miss = missOf(line, place);
                if (found == NONE || (isMost ? miss > best : miss < best)) {
                    found = place;
                    best = miss;
                }
            }
            return found;
        }
    }

    /** Reads a TABLE from the TAPE, up to the first FAULT. */
    static final class Reader {
        private static final int NO_TOKEN = 1;
        private static final int NOT_THERE = 2;
        private static final int TOLD_ALREADY = 3;
        private static final int NO_SUCH_NUMBER = 4;
        private static final int NO_SUCH_WORD = 5;
        private static final int MAX_WORTH = 20;
        private static final int MAX_WEIGHT = 9;
        private static final int MAX_DRAW = 999;
        // There is one e at most, so the document's 60 units in all are never reached.
        private static final int MAX_UNITS = 30;
        private static final int MAX_AROUND = 6;

        private final Tape tape;
        private Told draft;
        private int fault;
        private int place;

        Reader() {
            tape = new Tape();
            draft = new Told();
            fault = 0;
            place = NONE;
        }

        boolean readTable() {
            fault = 0;
            place = NONE;
            draft.clear();
            tape.rewind();
            for (int line = 0; line < MAX_TAPE && fault == 0 && tape.kind != Tape.END; line++) {
                switch (tape.kind) {
                    case Tape.KEY_WORD: readWordLine(); break;
                    case Tape.KEY_BESIDE: readBesideLine(); break;
                    case Tape.KEY_ROW: readWords(draft.addRow(), MAX_ROW); break;
                    case Tape.KEY_SLIP: readWords(draft.addSlip(), MAX_SLIP); break;
                    case Tape.KEY_MISS: readMissLine(); break;
                    case Tape.KEY_DRAW: readDrawLine(); break;
                    default: refuse();
                }
            }
            return fault == 0;
        }

        /** What was read, against something that the next TABLE can be read into. */
        Told handOver(Told old) {
            Told read = draft;
            draft = old;
            return read;
        }

        private boolean readWordLine() {
            if (draft.wordCount >= MAX_WORDS) {
                return refuse();
            }
            tape.advance();
            if (tape.kind != Tape.NAME) {
                return refuse();
            }
            long name = tape.name;
            if (draft.wordNamed(name) != NONE) {
                return fail(TOLD_ALREADY, tape.start);
            }
            tape.advance();
            if (!pass(Tape.KEY_WORTH) || !canReadNumber(MAX_WORTH, tape.start)) {
                return false;
            }
            draft.addWord(name, tape.number);
            tape.advance();
            return pass(';');
        }

        private boolean readBesideLine() {
            if (draft.pairCount >= MAX_BESIDES) {
                return refuse();
            }
            tape.advance();
            if (!canReadWord()) {
                return false;
            }
            int first = draft.wordNamed(tape.name);
            tape.advance();
            if (!canReadWord()) {
                return false;
            }
            int second = draft.wordNamed(tape.name);
            if (draft.isPairTold(first, second)) {
                return fail(TOLD_ALREADY, tape.start);
            }
            tape.advance();
            int start = tape.start;
            boolean isMinus = tape.kind == '-';
            if (isMinus) {
                tape.advance();
            }
            if (!canReadNumber(MAX_WEIGHT, start)) {
                return false;
            }
            draft.addPair(first, second, isMinus ? -tape.number : tape.number);
            tape.advance();
            return pass(';');
        }

        private boolean readMissLine() {
            if (draft.formula.isTold) {
                return refuse();
            }
            draft.formula.isTold = true;
            tape.advance();
            return readEither(0) && pass(';');
        }

        private boolean readDrawLine() {
            if (draft.isDrawTold) {
                return refuse();
            }
            tape.advance();
            if (!canReadNumber(MAX_DRAW, tape.start)) {
                return false;
            }
            draft.isDrawTold = true;
            draft.draw = tape.number;
            tape.advance();
            return pass(';');
        }

        /** The NAMES behind the line's first word; without a line there was one too many. */
        private boolean readWords(Line line, int most) {
            if (line == null) {
                return refuse();
            }
            tape.advance();
            if (tape.kind != Tape.NAME) {
                return refuse();
            }
            for (int i = 0; i < most && tape.kind == Tape.NAME; i++) {
                if (!canReadWord()) {
                    return false;
                }
                line.add(draft.wordNamed(tape.name));
                tape.advance();
            }
            return pass(';');
        }

        private boolean readEither(int around) {
            if (!readBoth(around)) {
                return false;
            }
            for (int i = 0; i < MAX_TAPE && tape.kind == Tape.KEY_OR; i++) {
                tape.advance();
                if (!readBoth(around)) {
                    return false;
                }
                draft.formula.add(Tape.KEY_OR, 0);
            }
            return true;
        }

        private boolean readBoth(int around) {
            if (!readOne(around)) {
                return false;
            }
            for (int i = 0; i < MAX_TAPE && tape.kind == Tape.KEY_AND; i++) {
                tape.advance();
                if (!readOne(around)) {
                    return false;
                }
                draft.formula.add(Tape.KEY_AND, 0);
            }
            return true;
        }

        private boolean readOne(int around) {
            if (tape.kind == Tape.KEY_NOT) {
                return readNot(around);
            }
            if (!readSum(around)) {
                return false;
            }
            int relation = tape.kind;
            if (relation != '<' && relation != '>' && relation != '=') {
                return true;
            }
            tape.advance();
            if (!readSum(around)) {
                return false;
            }
            draft.formula.add(relation, 0);
            return true;
        }

        private boolean readNot(int around) {
            if (around > MAX_AROUND) {
                return refuse();
            }
            tape.advance();
            if (!readOne(around + 1)) {
                return false;
            }
            draft.formula.add(Tape.KEY_NOT, 0);
            return true;
        }

        private boolean readSum(int around) {
            if (!readTerm(around)) {
                return false;
            }
            for (int i = 0; i < MAX_TAPE && (tape.kind == '+' || tape.kind == '-'); i++) {
                int sign = tape.kind;
                tape.advance();
                if (!readTerm(around)) {
                    return false;
                }
                draft.formula.add(sign, 0);
            }
            return true;
        }

        private boolean readTerm(int around) {
            if (!readUnit(around)) {
                return false;
            }
            for (int i = 0; i < MAX_TAPE && isTermSign(tape.kind); i++) {
                int sign = tape.kind;
                tape.advance();
                if (!readUnit(around)) {
                    return false;
                }
                draft.formula.add(sign, 0);
            }
            return true;
        }

        private boolean readUnit(int around) {
            int kind = tape.kind;
            if (draft.formula.units >= MAX_UNITS) {
                return refuse();
            }
            if (kind == '(') {
                return readBracket(around);
            }
            if (kind != Tape.NUMBER && !Tape.isKnownKey(kind)) {
                return refuse();
            }
            draft.formula.units++;
            draft.formula.add(kind, tape.number);
            tape.advance();
            return true;
        }

        private boolean readBracket(int around) {
            if (around > MAX_AROUND) {
                return refuse();
            }
            draft.formula.units++;
            tape.advance();
            return readEither(around + 1) && pass(')');
        }

        private static boolean isTermSign(int kind) {
            return kind == '*' || kind == '/' || kind == '%';
        }

        private boolean canReadWord() {
            if (tape.kind != Tape.NAME) {
                return refuse();
            }
            return draft.wordNamed(tape.name) != NONE || fail(NO_SUCH_WORD, tape.start);
        }

        private boolean canReadNumber(int most, int start) {
            if (tape.kind != Tape.NUMBER) {
                return refuse();
            }
            return tape.number <= most || fail(NO_SUCH_NUMBER, start);
        }

        private boolean pass(int kind) {
            if (tape.kind != kind) {
                return refuse();
            }
            tape.advance();
            return true;
        }

        private boolean refuse() {
            return fail(tape.kind == Tape.BAD ? NO_TOKEN : NOT_THERE, tape.start);
        }

        private boolean fail(int number, int at) {
            fault = number;
            place = at;
            return false;
        }
    }

    /** The ROW at the table with its round and SEED. */
    static final class State {
        private final Line row;
        private int round;
        private int seed;

        State() {
            row = new Line(MAX_ROW);
            round = 0;
            seed = 0;
        }

        void copy(State other) {
            row.copy(other.row);
            round = other.round;
            seed = other.seed;
        }

        /** A ROUND: the WORD that is left out. */
        int goRound(Told told, int rule) {
            if (row.count < 1) {
                return NONE;
            }
            int place;
            if (rule == BY_DRAW) {
                seed = (seed * 137 + 71) % 1000;
                place = seed % row.count;
            } else {
                place = told.placeMissed(row, rule == BY_MOST_MISSED);
            }
            round++;
            return row.drop(place);
        }
    }

    /** What is done to the ROW at the table, taken back and kept in BOXES. */
    static final class Play {
        private static final int MAX_ACTS = 40;
        private static final int MAX_ROUND = 999;

        private final State now;
        private final State ahead;
        private final State[] trail;
        private final State[] boxes;
        private final boolean[] isFilled;
        // trail[here] is as now is; what is behind it, up to trail[end], can be done again.
        private int here;
        private int end;

        Play() {
            now = new State();
            ahead = new State();
            trail = new State[MAX_ACTS + 1];
            for (int i = 0; i < trail.length; i++) {
                trail[i] = new State();
            }
            boxes = new State[BOXES];
            for (int i = 0; i < boxes.length; i++) {
                boxes[i] = new State();
            }
            isFilled = new boolean[BOXES];
        }

        void open(Told told) {
            now.row.copy(told.row);
            now.round = 0;
            now.seed = told.draw;
            forgetActs();
            for (int i = 0; i < isFilled.length; i++) {
                isFilled[i] = false;
            }
        }

        int passOn(Told told, int rule) {
            if (now.row.count < 1 || now.round >= MAX_ROUND) {
                return NONE;
            }
            int word = now.goRound(told, rule);
            noteAct();
            return word;
        }

        int dropAt(int place) {
            if (!now.row.has(place)) {
                return NONE;
            }
            int word = now.row.drop(place);
            noteAct();
            return word;
        }

        int insertAt(int place, int word) {
            if (!now.row.hasRoom() || place < 0 || place > now.row.count) {
                return NONE;
            }
            now.row.insert(place, word);
            noteAct();
            return now.row.count;
        }

        int replaceAt(int place, int word) {
            if (!now.row.has(place) || now.row.at(place) == word) {
                return NONE;
            }
            int old = now.row.replace(place, word);
            noteAct();
            return old;
        }

        boolean takeBack() {
            if (here < 1) {
                return false;
            }
            here--;
            takeFromTrail();
            return true;
        }

        boolean doAgain() {
            if (here >= end) {
                return false;
            }
            here++;
            takeFromTrail();
            return true;
        }

        int actsDone() {
            return here;
        }

        int actsTakenBack() {
            return end - here;
        }

        int keepIn(int box) {
            if (!hasBox(box)) {
                return NONE;
            }
            boxes[box].copy(now);
            isFilled[box] = true;
            return now.round;
        }

        int bringBack(int box) {
            if (!hasBox(box) || !isFilled[box]) {
                return NONE;
            }
            now.copy(boxes[box]);
            forgetActs();
            return now.round;
        }

        Line rowAfter(Told told, int rule, int rounds) {
            ahead.copy(now);
            for (int i = 0; i < rounds; i++) {
                ahead.goRound(told, rule);
            }
            return ahead.row;
        }

        int roundsUntil(Told told, int rule, Line wanted) {
            ahead.copy(now);
            for (int rounds = 0; rounds <= MAX_ROW; rounds++) {
                if (ahead.row.isLike(wanted)) {
                    return rounds;
                }
                ahead.goRound(told, rule);
            }
            return NONE;
        }

        private static boolean hasBox(int box) {
            return box >= 0 && box < BOXES;
        }

        private void forgetActs() {
            here = 0;
            end = 0;
            trail[0].copy(now);
        }

        private void noteAct() {
            if (here >= MAX_ACTS) {
                forgetOldest();
            }
            here++;
            end = here;
            if (here >= 0 && here < trail.length) {
                trail[here].copy(now);
            }
        }

        private void forgetOldest() {
            State oldest = trail[0];
            for (int i = 1; i < trail.length; i++) {
                trail[i - 1] = trail[i];
            }
            trail[trail.length - 1] = oldest;
            here--;
        }

        private void takeFromTrail() {
            if (here >= 0 && here < trail.length) {
                now.copy(trail[here]);
            }
        }
    }

    /** How ROWS come from one another, and what they have in common. */
    static final class Pairs {
        private static final int SIDE = MAX_ROW + 1;
        private static final int DEEP = MAX_SLIP + 1;

        private final int[] grid;
        private final int[] lengths;
        private final int[] counts;
        private final int[] next;
        private Line first;
        private Line second;
        private Line third;

        Pairs() {
            grid = new int[SIDE * SIDE];
            lengths = new int[DEEP * DEEP * DEEP];
            counts = new int[DEEP * DEEP * DEEP];
            next = new int[3];
            first = new Line(0);
            second = first;
            third = first;
        }

        boolean isComing(Line part, Line whole) {
            int found = 0;
            for (int i = 0; i < whole.count; i++) {
                if (found < part.count && whole.at(i) == part.at(found)) {
                    found++;
                }
            }
            return found == part.count;
        }

        int countWays(Line part, Line whole) {
            // grid[n]: the ways in which the part's first n items come from what was seen.
            Arrays.fill(grid, 0);
            grid[0] = 1;
            for (int i = 0; i < whole.count; i++) {
                for (int n = Math.min(part.count, SIDE - 1); n > 0; n--) {
                    if (part.at(n - 1) == whole.at(i)) {
                        grid[n] += grid[n - 1];
                    }
                }
            }
            return part.count < SIDE ? grid[part.count] : 0;
        }

        int countEdits(Line one, Line two) {
            for (int i = 0; i <= one.count; i++) {
                for (int j = 0; j <= two.count; j++) {
                    write(i, j, editsTo(one, two, i, j));
                }
            }
            return read(one.count, two.count);
        }

        private int editsTo(Line one, Line two, int i, int j) {
            if (i == 0 || j == 0) {
                return i + j;
            }
            int changed = read(i - 1, j - 1) + (one.at(i - 1) == two.at(j - 1) ? 0 : 1);
            return Math.min(changed, Math.min(read(i - 1, j), read(i, j - 1)) + 1);
        }

        int lengthOfLongest(Line one, Line two) {
            for (int i = one.count; i >= 0; i--) {
                for (int j = two.count; j >= 0; j--) {
                    write(i, j, longestFrom(one, two, i, j));
                }
            }
            return read(0, 0);
        }

        private int longestFrom(Line one, Line two, int i, int j) {
            if (i == one.count || j == two.count) {
                return 0;
            }
            if (one.at(i) == two.at(j)) {
                return read(i + 1, j + 1) + 1;
            }
            return Math.max(read(i + 1, j), read(i, j + 1));
        }

        /** Lays down COMMON, each time the least WORD by which a longest one goes on. */
        void layLongest(Line one, Line two, Line out) {
            out.clear();
            int left = lengthOfLongest(one, two);
            int i = 0;
            int j = 0;
            for (; left > 0; left--) {
                for (int word = 0; word < MAX_WORDS; word++) {
                    int inOne = one.find(word, i);
                    int inTwo = two.find(word, j);
                    if (one.has(inOne) && two.has(inTwo) && read(inOne + 1, inTwo + 1) == left - 1) {
                        out.add(word);
                        i = inOne + 1;
                        j = inTwo + 1;
                        break;
                    }
                }
            }
        }

        int countShortest(Line one, Line two, Line three) {
            fillShortest(one, two, three);
            return counts[0];
        }

        /** Lays down SOURCE, each time the least WORD by which a shortest one goes on. */
        void layShortest(Line one, Line two, Line three, Line out) {
            fillShortest(one, two, three);
            out.clear();
            int cell = 0;
            for (int left = lengths[0]; left > 0; left--) {
                int step = leastStep(cell, left - 1);
                if (step == NONE) {
                    return;
                }
                out.add(next[step]);
                cell = cellBehind(cell, next[step]);
            }
        }

        /** Of each three places from which on the rows are to be covered: the length, how many. */
        private void fillShortest(Line one, Line two, Line three) {
            first = one;
            second = two;
            third = three;
            for (int i = Math.min(first.count, MAX_SLIP); i >= 0; i--) {
                for (int j = Math.min(second.count, MAX_SLIP); j >= 0; j--) {
                    for (int k = Math.min(third.count, MAX_SLIP); k >= 0; k--) {
                        fillCell((i * DEEP + j) * DEEP + k);
                    }
                }
            }
        }

        private void fillCell(int cell) {
            findNext(cell);
            int length = NONE;
            int count = 0;
            for (int step = 0; step < next.length; step++) {
                if (isNewStep(step)) {
                    int behind = cellBehind(cell, next[step]);
                    if (length == NONE || lengths[behind] + 1 < length) {
                        length = lengths[behind] + 1;
                        count = counts[behind];
                    } else if (lengths[behind] + 1 == length) {
                        count += counts[behind];
                    }
                }
            }
            lengths[cell] = length == NONE ? 0 : length;
            counts[cell] = length == NONE ? 1 : count;
        }

        private int leastStep(int cell, int left) {
            findNext(cell);
            int found = NONE;
            for (int step = 0; step < next.length; step++) {
                if (next[step] != NONE && lengths[cellBehind(cell, next[step])] == left
                        && (found == NONE || next[step] < next[found])) {
                    found = step;
                }
            }
            return found;
        }

        /** The WORDS that the three rows want next there; NONE of a row that is covered. */
        private void findNext(int cell) {
            next[0] = first.at(cell / (DEEP * DEEP));
            next[1] = second.at(cell / DEEP % DEEP);
            next[2] = third.at(cell % DEEP);
        }

        private boolean isNewStep(int step) {
            for (int i = 0; i < step; i++) {
                if (next[i] == next[step]) {
                    return false;
                }
            }
            return next[step] != NONE;
        }

        private int cellBehind(int cell, int word) {
            int i = cell / (DEEP * DEEP);
            int j = cell / DEEP % DEEP;
            int k = cell % DEEP;
            i += first.at(i) == word ? 1 : 0;
            j += second.at(j) == word ? 1 : 0;
            k += third.at(k) == word ? 1 : 0;
            return Math.min((i * DEEP + j) * DEEP + k, lengths.length - 1);
        }

        private int read(int i, int j) {
            return isInGrid(i, j) ? grid[i * SIDE + j] : 0;
        }

        private void write(int i, int j, int value) {
            if (isInGrid(i, j)) {
                grid[i * SIDE + j] = value;
            }
        }

        private static boolean isInGrid(int i, int j) {
            return i >= 0 && i < SIDE && j >= 0 && j < SIDE;
        }
    }

    /** What SENSE is left when WORDS of a ROW are left out. */
    static final class Losses {
        // In a set the first PLACE is the highest bit: the greater of two sets has the first PLACES.
        private static final int SETS = 1 << MAX_ROW;

        private final int[] outcomes;

        Losses() {
            outcomes = new int[SETS];
        }

        int layBest(Told told, Line row, int n, boolean isMost, Line out) {
            int found = NONE;
            int best = 0;
            for (int set = lastSet(row); set >= 0; set--) {
                if (Integer.bitCount(set) == n) {
                    int sense = senseWithout(told, row, set);
                    if (found == NONE || (isMost ? sense > best : sense < best)) {
                        found = set;
                        best = sense;
                    }
                }
            }
            layPlaces(row, found, out);
            return best;
        }

        int sumOfSenses(Told told, Line row, int n) {
            int sum = 0;
            for (int set = lastSet(row); set >= 0; set--) {
                if (Integer.bitCount(set) == n) {
                    sum += senseWithout(told, row, set);
                }
            }
            return sum;
        }

        /** Finds, from the last turn to the first, what comes of each set that is left out. */
        void playDuel(Told told, Line row, int n) {
            for (int set = lastSet(row); set >= 0; set--) {
                int turn = Integer.bitCount(set);
                if (turn == n) {
                    outcomes[set] = senseWithout(told, row, set);
                } else if (turn < n) {
                    outcomes[set] = bestTurn(row, set, turn % 2 == 0);
                }
            }
        }

        int duelSense() {
            return outcomes[0];
        }

        int duelPlace(Line row) {
            for (int place = 0; place < row.count; place++) {
                int set = bitOf(row, place);
                if (set < SETS && outcomes[set] == outcomes[0]) {
                    return place;
                }
            }
            return GAP;
        }

        private int bestTurn(Line row, int set, boolean isMost) {
            boolean isFound = false;
            int best = 0;
            for (int place = 0; place < row.count; place++) {
                int more = set | bitOf(row, place);
                if (more != set && more < SETS) {
                    int outcome = outcomes[more];
                    if (!isFound || (isMost ? outcome > best : outcome < best)) {
                        best = outcome;
                    }
                    isFound = true;
                }
            }
            return best;
        }

        private int senseWithout(Told told, Line row, int set) {
            int sense = 0;
            int ahead = NONE;
            int bit = bitOf(row, 0);
            for (int place = 0; place < row.count; place++) {
                if ((set & bit) == 0) {
                    int word = row.at(place);
                    // Ahead of the first WORD stands NONE, of which nothing is told: 0.
                    sense += told.weightOf(ahead, word);
                    ahead = word;
                }
                bit >>= 1;
            }
            return sense;
        }

        private static void layPlaces(Line row, int set, Line out) {
            out.clear();
            for (int place = 0; place < row.count; place++) {
                if (set != NONE && (set & bitOf(row, place)) != 0) {
                    out.add(place);
                }
            }
        }

        private static int lastSet(Line row) {
            return (1 << Math.min(row.count, MAX_ROW)) - 1;
        }

        private static int bitOf(Line row, int place) {
            return 1 << (row.count - 1 - place);
        }
    }

    /** By which ROWS of one WORD more a ROW can be mended. */
    static final class Mender {
        private final Line left;
        private final Line trial;
        private final Line found;

        Mender() {
            left = new Line(MAX_ROW);
            trial = new Line(MAX_ROW);
            found = new Line(MAX_ROW);
        }

        int layMended(Told told, Line line, int mark, Line out) {
            int count = countMended(told, line, mark);
            out.copy(found);
            return count;
        }

        int safePlaces(Told told, Line row) {
            int mark = told.markOf(row);
            int places = 0;
            for (int place = 0; place < row.count; place++) {
                left.copy(row);
                left.drop(place);
                if (countMended(told, left, mark) == 1) {
                    places |= 1 << place;
                }
            }
            return places;
        }

        private int countMended(Told told, Line line, int mark) {
            int count = 0;
            found.clear();
            int shifted = shiftedMark(told, line);
            for (int place = 0; place <= line.count; place++) {
                for (int word = 0; word < told.wordCount; word++) {
                    if (isFirstPlace(line, place, word) && fits(told, shifted, place, word, mark)) {
                        count++;
                        trial.copy(line);
                        trial.insert(place, word);
                        keepFirst();
                    }
                }
                shifted -= told.worthOf(line.at(place));
            }
            return count;
        }

        /** What the WORDS make of a MARK when one more stands ahead of them all. */
        private static int shiftedMark(Told told, Line line) {
            int shifted = 0;
            for (int i = 0; i < line.count; i++) {
                shifted += (i + 2) * told.worthOf(line.at(i));
            }
            return shifted;
        }

        /** A WORD put in behind its like makes the same ROW as ahead of it: that counts once. */
        private static boolean isFirstPlace(Line line, int place, int word) {
            return place == 0 || line.at(place - 1) != word;
        }

        private static boolean fits(Told told, int shifted, int place, int word, int mark) {
            return (shifted + (place + 1) * told.worthOf(word)) % (MAX_MARK + 1) == mark;
        }

        private void keepFirst() {
            if (found.count == 0) {
                found.copy(trial);
                return;
            }
            for (int i = 0; i < trial.count; i++) {
                if (trial.at(i) != found.at(i)) {
                    if (trial.at(i) < found.at(i)) {
                        found.copy(trial);
                    }
                    return;
                }
            }
        }
    }

    /** The orders in which the SLIPS can have sat, and the HINTS about them. */
    static final class Seating {
        private static final int MAX_HINTS = 30;
        private static final int MAX_TIME = 100000;
        private static final int NOT_SURE = -2;
        // HINTS are told at 0 or later: at this time none was.
        private static final int BEFORE_ALL = -1;

        private final int[] coming;
        private final int[] sooner;
        private final int[] after;
        private final int[] toldAt;
        private final int[] untoldAt;
        private final int[] mustBeAhead;
        private final int[] order;
        private final int[] tally;
        private final Line firstOrder;
        private int slipCount;
        private int hintCount;
        private int time;
        private int orders;

        Seating() {
            coming = new int[MAX_SLIPS];
            sooner = new int[MAX_HINTS];
            after = new int[MAX_HINTS];
            toldAt = new int[MAX_HINTS];
            untoldAt = new int[MAX_HINTS];
            mustBeAhead = new int[MAX_SLIPS];
            order = new int[MAX_SLIPS];
            tally = new int[MAX_SLIPS * MAX_SLIPS];
            firstOrder = new Line(MAX_SLIPS);
        }

        void open(Told told, Pairs pairs) {
            slipCount = Math.min(told.slipCount, MAX_SLIPS);
            hintCount = 0;
            for (int from = 0; from < slipCount; from++) {
                coming[from] = 0;
                for (int slip = 0; slip < slipCount; slip++) {
                    Line part = told.slipAt(slip);
                    Line whole = told.slipAt(from);
                    if (part != null && whole != null && pairs.isComing(part, whole)) {
                        coming[from] |= 1 << slip;
                    }
                }
            }
        }

        int comingFrom(int slip) {
            return slip >= 0 && slip < slipCount ? coming[slip] : 0;
        }

        int tell(int ahead, int behind) {
            if (hintCount >= MAX_HINTS) {
                return NONE;
            }
            sooner[hintCount] = ahead;
            after[hintCount] = behind;
            toldAt[hintCount] = time;
            untoldAt[hintCount] = NONE;
            hintCount++;
            return hintCount - 1;
        }

        boolean untellNow(int hint) {
            if (hint < 0 || hint >= hintCount || untoldAt[hint] != NONE) {
                return false;
            }
            untoldAt[hint] = time;
            return true;
        }

        int goOn(int by) {
            if (time + by > MAX_TIME) {
                return NONE;
            }
            time += by;
            return time;
        }

        int countUnhinted() {
            return countKnown(BEFORE_ALL);
        }

        int countKnown(int k) {
            orders = 0;
            firstOrder.clear();
            Arrays.fill(tally, 0);
            Arrays.fill(mustBeAhead, 0);
            for (int hint = 0; hint < hintCount && hint < MAX_HINTS; hint++) {
                int behind = after[hint];
                if (isKnown(hint, k) && behind >= 0 && behind < mustBeAhead.length) {
                    mustBeAhead[behind] |= 1 << sooner[hint];
                }
            }
            seatFrom(0, 0);
            return orders;
        }

        int surePlace(int slip) {
            for (int place = 0; place < slipCount; place++) {
                int count = countAt(slip, place);
                if (count > 0) {
                    return count == orders ? place : NOT_SURE;
                }
            }
            return NONE;
        }

        int slipToAsk() {
            int found = 0;
            for (int slip = 1; slip < slipCount; slip++) {
                if (mostLeft(slip) < mostLeft(found)) {
                    found = slip;
                }
            }
            return found;
        }

        int mostLeft(int slip) {
            int most = 0;
            for (int place = 0; place < slipCount; place++) {
                most = Math.max(most, countAt(slip, place));
            }
            return most;
        }

        private boolean isKnown(int hint, int k) {
            return toldAt[hint] <= k && (untoldAt[hint] == NONE || untoldAt[hint] > k);
        }

        private int countAt(int slip, int place) {
            int cell = slip * MAX_SLIPS + place;
            return cell >= 0 && cell < tally.length ? tally[cell] : 0;
        }

        private void seatFrom(int place, int seated) {
            if (place >= slipCount || place >= order.length) {
                noteOrder();
                return;
            }
            for (int slip = 0; slip < slipCount; slip++) {
                if (canSit(slip, place, seated)) {
                    order[place] = slip;
                    seatFrom(place + 1, seated | 1 << slip);
                }
            }
        }

        private boolean canSit(int slip, int place, int seated) {
            if ((seated >> slip & 1) != 0 || (mustBeAhead[slip] & ~seated) != 0) {
                return false;
            }
            return place == 0 || (comingFrom(order[place - 1]) >> slip & 1) != 0;
        }

        private void noteOrder() {
            for (int place = 0; place < slipCount; place++) {
                tally[order[place] * MAX_SLIPS + place]++;
                if (orders == 0) {
                    firstOrder.add(order[place]);
                }
            }
            orders++;
        }
    }
}
