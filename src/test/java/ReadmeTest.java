import java.io.IOException;
import java.lang.reflect.Method;
import java.lang.reflect.Modifier;
import java.nio.charset.StandardCharsets;
import java.nio.file.Files;
import java.nio.file.Path;
import java.util.ArrayList;
import java.util.List;
import java.util.regex.Matcher;
import java.util.regex.Pattern;

/** README.md: its examples answer what they say, and it tells of each call of the face. */
public final class ReadmeTest {
    private static final Check CHECK = new Check("ReadmeTest");
    private static final Pattern BLOCK = Pattern.compile("(?s)```java\n(.*?)```");
    private static final Pattern CALL = Pattern.compile("x\\.(\\w+)\\(([^)]*)\\);\\s*// (-?\\d+|NONE|true|false): .+");

    public static void main(String[] args) throws IOException, ReflectiveOperationException {
        String text = Files.readString(Path.of("README.md"), StandardCharsets.UTF_8);
        examplesAnswerWhatTheySay(text);
        eachCallIsNamed(text);
        CHECK.end();
    }

    private static void examplesAnswerWhatTheySay(String text) throws ReflectiveOperationException {
        CHECK.about("the examples");
        RealmLogins x = new RealmLogins();
        int calls = 0;
        Matcher block = BLOCK.matcher(text);
        while (block.find()) {
            for (String row : block.group(1).split("\n")) {
                if (row.equals("RealmLogins x = new RealmLogins();")) {
                    x = new RealmLogins();
                    continue;
                }
                Matcher call = CALL.matcher(row);
                boolean read = call.matches();
                CHECK.due("the row is a call with its answer: " + row, read, true);
                if (read) {
                    CHECK.same(row, answer(x, call.group(1), call.group(2)), call.group(3));
                    calls++;
                }
            }
        }
        CHECK.due("there are examples", calls > 20, true);
    }

    private static String answer(RealmLogins x, String name, String list) throws ReflectiveOperationException {
        List<Integer> numbers = new ArrayList<>();
        for (String number : list.split(", ")) {
            if (!number.isEmpty()) {
                numbers.add(Integer.valueOf(number));
            }
        }
        for (Method method : face()) {
            if (method.getName().equals(name) && method.getParameterCount() == numbers.size()) {
                Object got = method.invoke(x, numbers.toArray());
                return got.equals(RealmLogins.NONE) ? "NONE" : got.toString();
            }
        }
        return "no such call";
    }

    private static List<Method> face() {
        List<Method> face = new ArrayList<>();
        for (Method method : RealmLogins.class.getDeclaredMethods()) {
            if (Modifier.isPublic(method.getModifiers())) {
                face.add(method);
            }
        }
        return face;
    }

    private static void eachCallIsNamed(String text) {
        CHECK.about("what each call of the public face is for");
        for (Method method : face()) {
            Matcher row = Pattern.compile("\n\\| `" + method.getName() + "\\(([^)]*)\\)` \\| [^|]+ \\| [^|]+ \\|\n")
                    .matcher(text);
            boolean found = row.find();
            CHECK.due("a row for " + method.getName(), found, true);
            if (found) {
                int count = row.group(1).isEmpty() ? 0 : row.group(1).split(", ").length;
                CHECK.due("parameters of " + method.getName(), count, method.getParameterCount());
            }
        }
        CHECK.due("a row for each", face().size(), 17);
        for (String word : new String[] {"new RealmLogins()", "`NONE` is -1", "512 calls", ".ci/run"}) {
            CHECK.due("README.md has " + word, text.contains(word), true);
        }
    }
}
