import java.io.IOException;
import java.lang.reflect.Constructor;
import java.lang.reflect.Field;
import java.lang.reflect.Method;
import java.lang.reflect.Modifier;
import java.nio.charset.StandardCharsets;
import java.nio.file.Files;
import java.nio.file.Path;
import java.util.HashSet;
import java.util.Set;
import java.util.TreeSet;
import java.util.regex.Matcher;
import java.util.regex.Pattern;

/** The document's public face, and those rules of LANGUAGE.md that can be seen without running the program. */
public final class FaceTest {
    private static final Check CHECK = new Check("FaceTest");
    private static final Path SOURCE = Path.of("src/main/java/RealmLogins.java");
    private static final String[] FACE = {
        "public RealmLogins()",
        "public boolean RealmLogins.copy(int)",
        "public boolean RealmLogins.crash(int)",
        "public boolean RealmLogins.enrol(int,int,int)",
        "public boolean RealmLogins.evict(int,int)",
        "public boolean RealmLogins.forge(int,int,int)",
        "public boolean RealmLogins.key(int,int,int)",
        "public boolean RealmLogins.lose(int)",
        "public int RealmLogins.deliver(int)",
        "public int RealmLogins.field(int,int)",
        "public int RealmLogins.flight()",
        "public int RealmLogins.holder(int,int)",
        "public int RealmLogins.journal(int,int)",
        "public int RealmLogins.line(int,int,int)",
        "public int RealmLogins.login(int,int,int,int,int)",
        "public int RealmLogins.logout(int,int,int)",
        "public int RealmLogins.sync(int)",
        "public int RealmLogins.tick(int)",
        "public static final int RealmLogins.NONE",
    };

    public static void main(String[] args) throws IOException {
        faceIsTheDocuments();
        classesInsideAreStaticAndHidden();
        namesOfTheFaceAreUsedOnce();
        wordsThatTheRulesLeaveOutAreNotThere();
        methodsAreShortAndMakeNoObject();
        CHECK.end();
    }

    private static void faceIsTheDocuments() {
        CHECK.same("the class", Modifier.toString(RealmLogins.class.getModifiers()), "public final");
        Set<String> visible = new TreeSet<>();
        for (Constructor<?> made : RealmLogins.class.getDeclaredConstructors()) {
            visible.add(made.toString());
        }
        for (Method method : RealmLogins.class.getDeclaredMethods()) {
            if (!Modifier.isPrivate(method.getModifiers())) {
                visible.add(method.toString());
            }
        }
        for (Field field : RealmLogins.class.getDeclaredFields()) {
            if (!Modifier.isPrivate(field.getModifiers())) {
                visible.add(field.toString());
            }
        }
        CHECK.same("the face", visible.toString(), new TreeSet<>(Set.of(FACE)).toString());
    }

    private static void classesInsideAreStaticAndHidden() {
        Class<?>[] inside = RealmLogins.class.getDeclaredClasses();
        CHECK.due("some twelve classes", inside.length < 12, true);
        for (Class<?> one : inside) {
            int modifiers = one.getModifiers();
            CHECK.due(one + " is static", Modifier.isStatic(modifiers), true);
            CHECK.due(one + " is public", Modifier.isPublic(modifiers), false);
            CHECK.due(one + " has few fields", one.getDeclaredFields().length <= 22, true);
            for (Method method : one.getDeclaredMethods()) {
                CHECK.due(method + " has few parameters", method.getParameterCount() <= 7, true);
            }
            for (Field field : one.getDeclaredFields()) {
                int kind = field.getModifiers();
                CHECK.due(field + " is no static state", !Modifier.isStatic(kind) || Modifier.isFinal(kind), true);
            }
        }
    }

    private static void namesOfTheFaceAreUsedOnce() {
        Set<String> names = new TreeSet<>();
        for (Method method : RealmLogins.class.getDeclaredMethods()) {
            if (Modifier.isPublic(method.getModifiers())) {
                names.add(method.getName());
            }
        }
        for (Method method : RealmLogins.class.getDeclaredMethods()) {
            boolean hidden = Modifier.isPrivate(method.getModifiers());
            CHECK.due(method + " bears a name of the face", hidden && names.contains(method.getName()), false);
        }
        for (Class<?> one : RealmLogins.class.getDeclaredClasses()) {
            for (Method method : one.getDeclaredMethods()) {
                CHECK.due(method + " bears a name of the face", names.contains(method.getName()), false);
            }
        }
    }

    private static String code() throws IOException {
        String source = Files.readString(SOURCE, StandardCharsets.ISO_8859_1);
        return source.replaceAll("(?s)/\\*.*?\\*/", " ").replaceAll("//.*", " ");
    }

    private static void wordsThatTheRulesLeaveOutAreNotThere() throws IOException {
        String code = code();
        Matcher left = Pattern.compile("\\b(throw|throws|try|catch|finally|synchronized|assert|import|package|volatile"
                + "|native|Object|Random|Thread|equals|hashCode|toString)\\b|->|::|\"|\\bSystem\\.(?!arraycopy\\b)"
                + "|static\\s*\\{").matcher(code);
        while (left.find()) {
            CHECK.same("a word that the rules leave out", left.group(), "");
        }
        CHECK.due("the source was read", code.contains("class RealmLogins"), true);
    }

    /** All rows are made in constructors, so that a run of calls stays in its room. */
    private static void methodsAreShortAndMakeNoObject() throws IOException {
        Matcher method = Pattern.compile("(?m)^( {4}| {8})(?:[\\w\\[\\]]+ )+([a-z]\\w*)\\([^;{]*\\) \\{\n"
                + "(?s:(.*?))\n\\1\\}$").matcher(code());
        int found = 0;
        while (method.find()) {
            String name = method.group(2);
            String body = method.group(3);
            CHECK.due(name + " has some sixty lines at most", body.split("\n").length <= 60, true);
            CHECK.due(name + " makes an object", Pattern.compile("\\bnew\\b|\\bclone\\b").matcher(body).find(), false);
            found++;
        }
        CHECK.due("methods that were read", found, countOfMethods());
    }

    private static int countOfMethods() {
        int count = 0;
        Set<Class<?>> all = new HashSet<>(Set.of(RealmLogins.class.getDeclaredClasses()));
        all.add(RealmLogins.class);
        for (Class<?> one : all) {
            for (Method method : one.getDeclaredMethods()) {
                count += method.isSynthetic() ? 0 : 1;
            }
        }
        return count;
    }
}
