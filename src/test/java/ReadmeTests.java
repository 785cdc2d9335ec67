import java.io.IOException;
import java.lang.reflect.Method;
import java.lang.reflect.Modifier;
import java.nio.charset.StandardCharsets;
import java.nio.file.Files;
import java.nio.file.Path;
import java.util.ArrayList;
import java.util.List;
import java.util.regex.Matcher;
import java.util.regex.Pattern;

/** README.md: its examples answer as they say, and it names every call and every constant as the document does. */
public final class ReadmeTests {
    private static final TestKit KIT = new TestKit();
    private static final Path README = Path.of("README.md");
    private static final Path DOCUMENT = Path.of("../shared/DOC.md");
    private static final Pattern EXAMPLE = Pattern.compile("pull\\.(\\w+)\\((.*)\\);\\s+// (-?\\d+|[A-Z]+)\\b.*");

    public static void main(String[] args) throws Exception {
        String text = Files.readString(README, StandardCharsets.UTF_8);
        examples(text);
        namesOfTheDocument(text);
        KIT.finish();
    }

    private static void examples(String text) throws Exception {
        CoastPull pull = new CoastPull();
        List<String> called = new ArrayList<>();
        boolean isCode = false;
        for (String line : text.split("\n")) {
            if (line.startsWith("```")) {
                isCode = line.equals("```java");
            } else if (isCode && !line.equals("CoastPull pull = new CoastPull();")) {
                Matcher example = EXAMPLE.matcher(line);
                boolean isExample = example.matches();
                KIT.holds("an example: " + line, isExample);
                if (isExample) {
                    KIT.due(line, answer(pull, example.group(1), example.group(2)), number(example.group(3)));
                    called.add(example.group(1));
                }
            }
        }
        for (Method method : CoastPull.class.getDeclaredMethods()) {
            boolean isOfFace = Modifier.isPublic(method.getModifiers());
            KIT.holds("an example of " + method.getName(), !isOfFace || called.contains(method.getName()));
        }
        for (String name : new String[] {"UNKNOWN", "OUTSIDE", "STATE", "FULL", "NONE"}) {
            KIT.holds("an example of " + name, text.contains("// " + name));
        }
    }

    private static int answer(CoastPull pull, String name, String list) throws Exception {
        String[] told = list.isEmpty() ? new String[0] : list.split(", ");
        for (Method method : CoastPull.class.getDeclaredMethods()) {
            if (method.getName().equals(name) && method.getParameterCount() == told.length) {
                Object[] values = new Object[told.length];
                for (int i = 0; i < told.length; i++) {
                    boolean isTruth = method.getParameterTypes()[i] == boolean.class;
                    values[i] = isTruth ? (Object) Boolean.valueOf(told[i]) : (Object) Integer.valueOf(told[i]);
                }
                return (int) method.invoke(pull, values);
            }
        }
        throw new IllegalStateException("no call " + name + "(" + list + ")");
    }

    private static int number(String told) throws Exception {
        boolean isName = Character.isLetter(told.charAt(0));
        return isName ? CoastPull.class.getField(told).getInt(null) : Integer.parseInt(told);
    }

    private static void namesOfTheDocument(String text) throws IOException {
        String document = Files.readString(DOCUMENT, StandardCharsets.UTF_8);
        Matcher call = Pattern.compile("    public int (\\w+\\(.*\\));").matcher(document);
        int calls = 0;
        while (call.find()) {
            calls++;
            String named = call.group(1).replaceAll("\\b(int|boolean) ", "");
            KIT.holds("a row for `" + named + "`", text.contains("| `" + named + "` "));
        }
        KIT.due("calls of the document", calls, 23);
        String face = document.substring(document.indexOf("public static final int"));
        Matcher constant = Pattern.compile("([A-Z]+) = (-\\d+)").matcher(face.substring(0, face.indexOf(';')));
        int constants = 0;
        while (constant.find()) {
            constants++;
            String name = Pattern.quote(constant.group(1));
            Matcher told = Pattern.compile("`" + name + "`[ |,]+" + constant.group(2) + "\\b").matcher(text);
            KIT.holds(constant.group() + " is told", told.find());
        }
        KIT.due("constants of the document", constants, 5);
    }
}
