import java.io.IOException;
import java.lang.reflect.Array;
import java.lang.reflect.Field;
import java.lang.reflect.Method;
import java.lang.reflect.Modifier;
import java.nio.charset.StandardCharsets;
import java.nio.file.Files;
import java.nio.file.Path;
import java.util.ArrayDeque;
import java.util.ArrayList;
import java.util.Arrays;
import java.util.Collections;
import java.util.Deque;
import java.util.IdentityHashMap;
import java.util.List;
import java.util.Set;
import java.util.TreeSet;
import java.util.regex.Matcher;
import java.util.regex.Pattern;

/** The public face, the rules of LANGUAGE.md that can be read off the source, and the room of an object. */
public final class FaceTests {
    private static final TestKit KIT = new TestKit();
    private static final Path SOURCE = Path.of("src/main/java/CoastPull.java");
    private static final List<String> FACE = List.of("line(int)", "cell(int,int,int)", "stop(int,boolean)",
        "train(int,int)", "has(int)", "leg(int,boolean)", "force(int,int,int)", "fault(int,int,int)",
        "time(int,int,int)", "power(int,int,int)", "fastest(int)", "best(int,int)", "bestTime(int,int)",
        "bestSpeed(int,int,int)", "curve(int)", "point(int,int,boolean)", "share(int)", "shareTime(int,int)",
        "needs(int)", "log(int)", "clear()", "judged(int)", "count(int)");
    private static final List<String> BANNED = List.of("throw", "throws", "try", "catch", "synchronized", "assert",
        "->", "::", "protected", "volatile", "transient", "native", "hashCode", "toString", "yield", "var",
        "System.currentTimeMillis", "System.nanoTime", "Random", "Thread", "package", "java.io", "java.nio", "Object");

    public static void main(String[] args) throws IOException, IllegalAccessException {
        face();
        namesOfTheFaceAreItsOwn();
        source();
        room();
        KIT.finish();
    }

    private static String signature(Method method) {
        List<String> types = new ArrayList<>();
        for (Class<?> type : method.getParameterTypes()) {
            types.add(type.getName());
        }
        return method.getName() + "(" + String.join(",", types) + ")";
    }

    private static void face() {
        int modifiers = CoastPull.class.getModifiers();
        KIT.holds("public final class", Modifier.isPublic(modifiers) && Modifier.isFinal(modifiers));
        KIT.due("constructors", CoastPull.class.getDeclaredConstructors().length, 1);
        KIT.due("constructor's parameters", CoastPull.class.getDeclaredConstructors()[0].getParameterCount(), 0);
        KIT.due("public constructor", CoastPull.class.getDeclaredConstructors()[0].getModifiers(), Modifier.PUBLIC);
        Set<String> shown = new TreeSet<>();
        for (Method method : CoastPull.class.getDeclaredMethods()) {
            if (!Modifier.isPrivate(method.getModifiers())) {
                shown.add(signature(method));
                KIT.holds(method + " is public and of an object", method.getModifiers() == Modifier.PUBLIC);
                KIT.holds(method + " answers an int", method.getReturnType() == int.class);
            }
        }
        KIT.holds("the face is that of the document: " + shown, shown.equals(new TreeSet<>(FACE)));
        Set<String> constants = new TreeSet<>();
        for (Field field : CoastPull.class.getDeclaredFields()) {
            if (!Modifier.isPrivate(field.getModifiers())) {
                constants.add(field.getName());
                KIT.holds(field + " is a constant int", field.getType() == int.class
                    && field.getModifiers() == (Modifier.PUBLIC | Modifier.STATIC | Modifier.FINAL));
            }
        }
        KIT.holds("the constants are those of the document: " + constants,
            constants.equals(Set.of("UNKNOWN", "OUTSIDE", "STATE", "FULL", "NONE")));
    }

    private static void namesOfTheFaceAreItsOwn() {
        Set<String> names = new TreeSet<>();
        for (String signature : FACE) {
            names.add(signature.substring(0, signature.indexOf('(')));
        }
        List<Class<?>> classes = new ArrayList<>(Arrays.asList(CoastPull.class.getDeclaredClasses()));
        KIT.holds("twelve classes at most", classes.size() < 12);
        classes.add(CoastPull.class);
        for (Class<?> of : classes) {
            boolean isFace = of == CoastPull.class;
            KIT.holds(of + " is static", isFace || Modifier.isStatic(of.getModifiers()));
            int ownFields = 0;
            for (Field field : of.getDeclaredFields()) {
                boolean isStatic = Modifier.isStatic(field.getModifiers());
                ownFields += isStatic ? 0 : 1;
                KIT.holds(field + " is final if static", !isStatic || Modifier.isFinal(field.getModifiers()));
            }
            KIT.holds(of + " has twenty fields at most", ownFields <= 20);
            for (Method method : of.getDeclaredMethods()) {
                boolean isOfFace = isFace && Modifier.isPublic(method.getModifiers());
                KIT.holds(method + " has a name of its own", isOfFace || !names.contains(method.getName()));
                KIT.holds(method + " has seven parameters at most", method.getParameterCount() <= 7);
            }
        }
    }

    private static void source() throws IOException {
        String text = Files.readString(SOURCE, StandardCharsets.US_ASCII);
        String code = text.replaceAll("(?s)/\\*.*?\\*/", " ").replaceAll("//[^\n]*", " ");
        for (String word : BANNED) {
            boolean isWord = Character.isLetter(word.charAt(0));
            Matcher found = Pattern.compile(isWord ? "\\b" + Pattern.quote(word) + "\\b" : Pattern.quote(word))
                .matcher(code);
            KIT.holds("the source is free of " + word, !found.find());
        }
        Matcher imports = Pattern.compile("import ([^;]*);").matcher(code);
        while (imports.find()) {
            KIT.holds("import " + imports.group(1), Set.of("java.util.Arrays", "java.util.ArrayList",
                "java.util.List", "java.util.Iterator").contains(imports.group(1)));
        }
        Matcher library = Pattern.compile("\\b(Math|Arrays|Integer|Long|System)\\.(\\w+)").matcher(code);
        while (library.find()) {
            KIT.holds("library: " + library.group(), Set.of("Math.max", "Math.min", "Math.abs", "Arrays.fill")
                .contains(library.group()));
        }
    }

    // 512 objects, each made and used by one call, still fit into the one room of a run.
    private static void room() throws IllegalAccessException {
        CoastPull x = new CoastPull();
        long[] made = roomOf(x);
        KIT.holds(made[0] + " objects are few", made[0] * 512 <= 600_000);
        KIT.holds(made[1] + " fields and elements are few", made[1] * 512 <= 7_300_000);
        x.line(16);
        x.stop(7, true);
        x.share(600);
        x.log(1);
        long[] used = roomOf(x);
        KIT.due("objects after use", used[0], made[0]);
        KIT.due("fields and elements after use", used[1], made[1]);
    }

    private static long[] roomOf(CoastPull x) throws IllegalAccessException {
        Set<Object> seen = Collections.newSetFromMap(new IdentityHashMap<>());
        Deque<Object> open = new ArrayDeque<>();
        open.add(x);
        seen.add(x);
        long parts = 0;
        while (!open.isEmpty()) {
            Object at = open.remove();
            if (at.getClass().isArray()) {
                parts += Array.getLength(at);
                continue;
            }
            for (Field field : at.getClass().getDeclaredFields()) {
                if (isOfObject(field)) {
                    parts++;
                    field.setAccessible(true);
                    Object held = field.getType().isPrimitive() ? null : field.get(at);
                    if (held != null && seen.add(held)) {
                        open.add(held);
                    }
                }
            }
        }
        return new long[] {seen.size(), parts};
    }

    private static boolean isOfObject(Field field) {
        return !Modifier.isStatic(field.getModifiers());
    }
}
