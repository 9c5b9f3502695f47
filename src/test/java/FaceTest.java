import java.io.IOException;
import java.lang.reflect.Field;
import java.lang.reflect.Member;
import java.lang.reflect.Method;
import java.lang.reflect.Modifier;
import java.nio.file.Files;
import java.nio.file.Path;
import java.util.Arrays;
import java.util.List;
import java.util.Set;
import java.util.TreeSet;
import java.util.regex.Matcher;
import java.util.regex.Pattern;
import java.util.stream.Collectors;

/** The face of the class, and what of LANGUAGE.md can be seen from outside. */
public final class FaceTest {
    private static final String FACE = "about(int):int apart(int,int):int ask(int,int):int back(int):int "
        + "becomes(int,int):int beside(int,int):int change(int,int):int comes(int):int common(int,int):int "
        + "duel(int,int):int end(int):int fault(int):int feed(int,int,int,int,int):int "
        + "hint(int,int,boolean):int image(int):int keep(int,int):int lacks(int):int last(int):int later(int):int "
        + "leave(int):int lies(int):int mark(int):int mean(int,int):int mended(int,int):int miss(int):int "
        + "missed(int):int odds(int,int):int put(int,int):int redo():boolean round(int):int safe():int "
        + "seats(int):int sense(int):int sittings():int size(int):int slip(int,int):int source(int,int):int "
        + "sources(int,int):int strange(int):int sure(int,int):int table():int three(int,int,int):int "
        + "undo():boolean untell(int):boolean ways(int,int):int will(int,int):int word(int):int worth(int):int";

    public static void main(String[] args) throws IOException {
        face();
        inside();
        source(Files.readString(Path.of("src/main/java/LostWords.java")));
        Check.finish();
    }

    private static void face() {
        Class<LostWords> type = LostWords.class;
        Check.due("public and final", Modifier.isPublic(type.getModifiers()) && Modifier.isFinal(type.getModifiers()),
            true);
        Set<String> want = new TreeSet<>(List.of(FACE.split(" ")));
        Set<String> got = Arrays.stream(type.getDeclaredMethods()).filter(m -> !isPrivate(m)).map(FaceTest::told)
            .collect(Collectors.toCollection(TreeSet::new));
        Check.due("the methods " + got, got.equals(want), true);
        Set<String> fields = Arrays.stream(type.getDeclaredFields()).filter(f -> !isPrivate(f)).map(Field::getName)
            .collect(Collectors.toCollection(TreeSet::new));
        Check.due("the constants " + fields, fields.equals(Set.of("NONE", "GAP")), true);
        Check.due("one constructor", type.getDeclaredConstructors().length, 1);
        Check.due("a public one", type.getConstructors().length, 1);
    }

    private static boolean isPrivate(Member member) {
        return Modifier.isPrivate(member.getModifiers());
    }

    private static String told(Method method) {
        return method.getName() + "(" + Arrays.stream(method.getParameterTypes()).map(Class::getName)
            .collect(Collectors.joining(",")) + "):" + method.getReturnType().getName();
    }

    private static void inside() {
        Class<?>[] classes = LostWords.class.getDeclaredClasses();
        Check.due("some twelve classes", classes.length <= 11, true);
        Set<String> names = Arrays.stream(FACE.split(" ")).map(m -> m.substring(0, m.indexOf('(')))
            .collect(Collectors.toSet());
        for (Class<?> type : classes) {
            int modifiers = type.getModifiers();
            Check.due(type + " is static, not open", Modifier.isStatic(modifiers) && !Modifier.isPublic(modifiers)
                && !Modifier.isProtected(modifiers), true);
            for (Method method : type.getDeclaredMethods()) {
                Check.due(type + " has a name of the face: " + method, names.contains(method.getName()), false);
                Check.due("parameters of " + method, method.getParameterCount() <= 7, true);
            }
            long fields = Arrays.stream(type.getDeclaredFields()).filter(f -> !Modifier.isStatic(f.getModifiers()))
                .count();
            Check.due("fields of " + type, fields <= 20, true);
            for (Field field : type.getDeclaredFields()) {
                boolean isShared = Modifier.isStatic(field.getModifiers()) && !Modifier.isFinal(field.getModifiers());
                Check.due("no static state: " + field, isShared, false);
            }
        }
        for (Method method : LostWords.class.getDeclaredMethods()) {
            Check.due("a private one with a name of the face: " + method,
                isPrivate(method) && names.contains(method.getName()), false);
        }
    }

    private static void source(String text) {
        String code = text.replaceAll("(?s)/\\*.*?\\*/", "").replaceAll("//[^\n]*", "").replaceAll("\"[^\"\n]*\"", "\"\"");
        for (String word : List.of("throw", "throws", "try", "catch", "finally", "synchronized", "assert", "package",
                "Object", "System.out", "Random", "Exact", "hashCode", "toString", "double", "float", "->", "::")) {
            Pattern pattern = Pattern.compile(Character.isLetter(word.charAt(0)) ? "\\b" + word + "\\b" : word);
            Check.due("the source has " + word, pattern.matcher(code).find(), false);
        }
        Matcher imports = Pattern.compile("import [^;]*;").matcher(code);
        while (imports.find()) {
            Check.due(imports.group(), imports.group().equals("import java.util.Arrays;"), true);
        }
        lengths(text.split("\n"));
    }

    /** Methods stay short: from a line that opens one to the brace at the same depth. */
    private static void lengths(String[] lines) {
        for (int i = 0; i < lines.length; i++) {
            Matcher opening = Pattern.compile("^( {4}| {8})(?!static final class)\\w.*\\) \\{$").matcher(lines[i]);
            if (opening.find() && !lines[i].trim().startsWith("for") && !lines[i].trim().startsWith("if")) {
                int end = i;
                while (!lines[end].equals(opening.group(1) + "}")) {
                    end++;
                }
                Check.due("lines of " + lines[i].trim(), end - i <= 60, true);
            }
        }
    }
}
