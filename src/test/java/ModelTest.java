import java.lang.reflect.InvocationTargetException;
import java.lang.reflect.Method;
import java.lang.reflect.Modifier;
import java.util.ArrayList;
import java.util.Arrays;
import java.util.Comparator;
import java.util.HashMap;
import java.util.List;
import java.util.Map;
import java.util.Random;

/** Whole lives of objects by a fixed draw: each answer of all calls against the Model's. */
public final class ModelTest {
    private static final int LIVES = 500;
    private static final int CALLS = 512;
    private static final int[] EDGES = {Integer.MIN_VALUE, -1000000, -100, -3, -2, -1, 6, 7, 8, 9, 10, 11, 12, 13, 19,
        20, 29, 30, 40, 99, 100, 999, 1000, 1001, 1580, 1600, 1601, 100000, Integer.MAX_VALUE};
    /** What sort of number each call takes: s SLIP, w WORD, p PLACE, o 0 or 1, and so on; f a flag. */
    private static final Map<String, String> GIVEN = new HashMap<>();
    private static final Random DRAW = new Random(512);
    private static final List<Method> FACE = new ArrayList<>();

    /** The object, the Model, and what was called so far. */
    private static LostWords real;
    private static Model model;
    private static int calls;
    private static final StringBuilder LIFE = new StringBuilder();

    public static void main(String[] args) throws ReflectiveOperationException {
        for (String given : ("fault o,word p,slip sp,size s,worth w,beside ww,sense s,miss p,missed o,lacks s,round r,"
            + "leave p,put pw,change pw,ways ss,odds so,source ss,sources ss,three sss,common ss,keep no,mean no,"
            + "duel no,apart ss,strange s,becomes rs,will ri,last r,mark s,mended sm,comes s,lies l,hint ssf,untell h,"
            + "seats k,sure sk,ask ok,image b,back b,about i").split(",")) {
            GIVEN.put(given.split(" ")[0], given.split(" ")[1]);
        }
        for (Method method : LostWords.class.getDeclaredMethods()) {
            if (Modifier.isPublic(method.getModifiers())) {
                FACE.add(method);
            }
        }
        FACE.sort(Comparator.comparing(Method::getName));
        for (int n = 0; n < LIVES; n++) {
            live(n);
        }
        Check.finish();
    }

    private static void live(int n) throws ReflectiveOperationException {
        real = new LostWords();
        model = new Model();
        calls = 0;
        LIFE.setLength(0);
        boolean isAlike = n % 10 == 0 || tell(ModelTexts.draw(DRAW));
        while (isAlike && calls < CALLS) {
            // A table now and then, told while much lies there, is kept, was hinted.
            boolean isTold = calls < CALLS - 100 && DRAW.nextInt(250) == 0;
            isAlike = isTold ? tell(ModelTexts.draw(DRAW)) : any();
        }
    }

    private static boolean tell(String text) throws ReflectiveOperationException {
        boolean isAlike = call("end", 0);
        for (int from = 0; from < text.length() && isAlike; from += 20) {
            isAlike = call("feed", Check.four(text, from), Check.four(text, from + 4), Check.four(text, from + 8),
                Check.four(text, from + 12), Check.four(text, from + 16));
        }
        return isAlike && call("end", text.length()) && call("table") && call("fault", 0) && call("fault", 1);
    }

    private static boolean any() throws ReflectiveOperationException {
        Method method = DRAW.nextInt(20) == 0 ? methodOf(LostWords.class, "put") : FACE.get(DRAW.nextInt(FACE.size()));
        String name = method.getName();
        // A tape of any bytes is hardly ever a table, and an empty one ends all that was told.
        if (List.of("table", "feed", "end").contains(name) && DRAW.nextInt(20) > 0) {
            return true;
        }
        Object[] given = new Object[method.getParameterCount()];
        String sorts = GIVEN.getOrDefault(name, "?????");
        for (int i = 0; i < given.length; i++) {
            char sort = sorts.charAt(i);
            given[i] = sort == 'f' ? (Object) DRAW.nextBoolean() : (Object) number(sort);
        }
        return call(name, given);
    }

    /** Mostly one that can be, or one less, one more. */
    private static int number(char sort) {
        if (DRAW.nextInt(20) == 0) {
            return EDGES[DRAW.nextInt(EDGES.length)];
        }
        int most = switch (sort) {
            case 's' -> model.about(0) - 1;
            case 'w' -> model.about(1) - 1;
            case 'p' -> model.about(2) - 1;
            case 'o' -> 1;
            case 'r', 'b' -> 2;
            case 'n' -> 4;
            case 'l' -> model.about(12) - 1;
            case 'h' -> model.about(8) - 1;
            case 'k' -> model.about(9);
            case 'i' -> 12;
            case 'm' -> 99;
            default -> 4;
        };
        int outside = DRAW.nextInt(12);
        return outside == 0 ? -1 : outside == 1 ? most + 1 : DRAW.nextInt(Math.max(most, 0) + 1);
    }

    private static boolean call(String name, Object... given) throws ReflectiveOperationException {
        calls++;
        LIFE.append(name).append(Arrays.toString(given)).append(' ');
        Object got = methodOf(LostWords.class, name).invoke(real, given);
        Object want = methodOf(Model.class, name).invoke(model, given);
        if (!got.equals(want)) {
            Check.due(LIFE.toString(), number(got), number(want));
            return false;
        }
        Check.due(name, 0, 0);
        return true;
    }

    private static long number(Object answer) {
        return answer instanceof Boolean isSo ? isSo ? 1 : 0 : (Integer) answer;
    }

    private static Method methodOf(Class<?> owner, String name) throws NoSuchMethodException {
        Class<?>[] sorts = FACE.stream().filter(method -> method.getName().equals(name)).findFirst()
            .orElseThrow().getParameterTypes();
        return owner.getMethod(name, sorts);
    }
}
