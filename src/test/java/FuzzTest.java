import java.lang.management.ManagementFactory;
import java.lang.reflect.InvocationTargetException;
import java.lang.reflect.Method;
import java.util.ArrayList;
import java.util.Comparator;
import java.util.List;
import java.util.Random;

/** Any calls with any numbers on any table: none throws, two objects answer alike, little is made. */
public final class FuzzTest {
    private static final int[] EDGES = {Integer.MIN_VALUE, -1000000, -2, -1, 0, 0, 1, 1, 2, 2, 3, 4, 5, 7, 8, 9, 11,
        12, 13, 20, 40, 99, 100, 1000, 1600, Integer.MAX_VALUE};
    private static final String[] PIECES = {"word ", "beside ", "row ", "slip ", "miss ", "draw ", "worth ", "a ", "b ",
        "c ", "a ", "b ", "or ", "and ", "not ", "place ", "size ", "times ", "left ", "right ", ";", ";", "(", ")",
        "<", ">", "=", "+", "-", "*", "/", "%", "3 ", "12 ", "9999 ", "#"};
    private static final Random DRAW = new Random(7);

    public static void main(String[] args) throws Exception {
        List<Method> face = new ArrayList<>();
        for (Method method : LostWords.class.getDeclaredMethods()) {
            if (java.lang.reflect.Modifier.isPublic(method.getModifiers())) {
                face.add(method);
            }
        }
        face.sort(Comparator.comparing(Method::getName));
        for (int n = 0; n < 400; n++) {
            run(face);
        }
        readings();
        room();
        Check.finish();
    }

    private static String table() {
        StringBuilder text = new StringBuilder();
        int words = 1 + DRAW.nextInt(9);
        for (int w = 0; w < words; w++) {
            text.append("word ").append((char) ('a' + w)).append(" worth ").append(DRAW.nextInt(21)).append(';');
        }
        text.append("row");
        for (int i = 0; i <= DRAW.nextInt(12); i++) {
            text.append(' ').append((char) ('a' + DRAW.nextInt(words)));
        }
        text.append(";beside a a 5;miss worth*times/(place-2)+left%right;");
        for (int s = 0; s < DRAW.nextInt(6); s++) {
            text.append("slip");
            for (int i = 0; i <= DRAW.nextInt(8); i++) {
                text.append(' ').append((char) ('a' + DRAW.nextInt(words)));
            }
            text.append(';');
        }
        return text.toString();
    }

    private static void run(List<Method> face) throws IllegalAccessException {
        String text = table();
        LostWords one = Check.told(text);
        LostWords two = Check.told(text);
        StringBuilder run = new StringBuilder(text);
        for (int call = 0; call < 400; call++) {
            Method method = face.get(DRAW.nextInt(face.size()));
            if (method.getName().equals("table") && DRAW.nextInt(10) > 0) {
                continue;
            }
            Class<?>[] types = method.getParameterTypes();
            Object[] given = new Object[types.length];
            run.append(' ').append(method.getName());
            for (int i = 0; i < given.length; i++) {
                boolean isFlag = types[i] == boolean.class;
                int number = DRAW.nextInt(9) == 0 ? EDGES[DRAW.nextInt(EDGES.length)] : DRAW.nextInt(6) - 1;
                given[i] = isFlag ? (Object) DRAW.nextBoolean() : (Object) number;
                run.append(' ').append(given[i]);
            }
            try {
                Object answer = method.invoke(one, given);
                if (!answer.equals(method.invoke(two, given))) {
                    Check.due("two objects behind " + run, 0, 1);
                }
            } catch (InvocationTargetException thrown) {
                Check.due(thrown.getCause() + " behind " + run, 0, 1);
                return;
            }
        }
        Check.due("about(10) is within the tape", one.about(10) >= 0 && one.about(10) <= 1600, true);
    }

    /** Texts of any pieces: each is a table or has a fault at a place of it. */
    private static void readings() {
        for (int n = 0; n < 20000; n++) {
            StringBuilder text = new StringBuilder("word a worth 1;word b worth 2;");
            for (int i = 0; i < DRAW.nextInt(12); i++) {
                text.append(PIECES[DRAW.nextInt(PIECES.length)]);
            }
            if (DRAW.nextInt(4) == 0) {
                text.setCharAt(DRAW.nextInt(text.length()), (char) DRAW.nextInt(256));
            }
            LostWords x = new LostWords();
            Check.feed(x, text.toString());
            boolean isTold = x.table() != LostWords.NONE;
            boolean isFault = x.fault(0) >= 1 && x.fault(0) <= 5 && x.fault(1) >= 0 && x.fault(1) <= text.length();
            Check.due("a table or a fault: " + text, isTold != isFault, true);
            if (isTold) {
                Check.due("no fault: " + text, x.fault(0) == 0 && x.fault(1) == -1, true);
            }
        }
    }

    /** All rows are made in the constructor: later calls make nothing. */
    private static void room() {
        com.sun.management.ThreadMXBean memory =
            (com.sun.management.ThreadMXBean) ManagementFactory.getThreadMXBean();
        StringBuilder text = new StringBuilder();
        for (int w = 0; w < 9; w++) {
            text.append("word ").append((char) ('a' + w)).append(" worth ").append(w).append(';');
        }
        text.append("row a b c d e f g h i a b c;slip a b c d e f g h;slip b c d e f g h i;slip c c c c d d d d;");
        int[] numbers = new int[100];
        String padded = text + " ".repeat(20);
        for (int i = 0; i < text.length(); i += 4) {
            numbers[i / 4] = padded.charAt(i) << 24 | padded.charAt(i + 1) << 16 | padded.charAt(i + 2) << 8
                | padded.charAt(i + 3);
        }
        everyCall(numbers, text.length(), memory);
        // The machine may make a little of its own in between.
        Check.due("later calls make nothing", everyCall(numbers, text.length(), memory) < 1000, true);
    }

    private static long everyCall(int[] numbers, int length, com.sun.management.ThreadMXBean memory) {
        LostWords x = new LostWords();
        long before = memory.getCurrentThreadAllocatedBytes();
        for (int i = 0; i * 4 < length; i += 5) {
            x.feed(numbers[i], numbers[i + 1], numbers[i + 2], numbers[i + 3], numbers[i + 4]);
        }
        x.end(length);
        long sum = x.table() + x.fault(0) + x.word(0) + x.slip(0, 0) + x.size(0) + x.worth(0) + x.beside(0, 1);
        sum += x.sense(-1) + x.miss(0) + x.missed(0) + x.lacks(0) + x.round(0) + x.leave(0) + x.put(0, 1);
        sum += x.change(0, 2) + (x.undo() ? 1 : 0) + (x.redo() ? 1 : 0) + x.ways(0, -1) + x.odds(0, 0);
        sum += x.source(0, 2) + x.sources(0, 2) + x.three(0, 1, 2) + x.common(0, 1) + x.keep(4, 0) + x.mean(4, 0);
        sum += x.duel(4, 0) + x.apart(0, -1) + x.strange(0) + x.becomes(1, 0) + x.will(2, 5) + x.last(0);
        sum += x.mark(0) + x.mended(0, 50) + x.safe() + x.sittings() + x.comes(0) + x.lies(0);
        sum += x.hint(0, 1, true) + (x.untell(0) ? 1 : 0) + x.later(1) + x.seats(0) + x.sure(0, 0) + x.ask(0, 0);
        sum += x.image(0) + x.back(0) + x.about(0);
        long made = memory.getCurrentThreadAllocatedBytes() - before;
        return sum == Long.MIN_VALUE ? -1 : made;
    }
}
