import java.lang.reflect.Constructor;
import java.lang.reflect.Field;
import java.lang.reflect.Method;
import java.lang.reflect.Modifier;
import java.nio.file.Files;
import java.nio.file.Path;
import java.util.ArrayList;
import java.util.List;
import java.util.Set;
import java.util.TreeSet;
import java.util.regex.Matcher;
import java.util.regex.Pattern;

/** The rules of LANGUAGE.md that can be seen from the class and its text, and the document's face. */
public final class LanguageTest {
    private static final Check CHECK = new Check();
    private static final String FACE = """
            feed(IIIII)I end(I)I school()I fault(I)I sum(II)I value(I)I stands(I)I board(I)I slates(I)I move(I)I
            swap(I)I may(I)I smudge(II)I lend(I)I give(I)I lose(I)I clear()I judge(I)I ends(I)I backwards(I)I
            fewest(IZ)I steps(IIZ)I go(IIZ)I next(IIZ)I reach(I)I ever(I)I far(II)I keep(II)I cost(II)I worst(I)I
            lacks(I)I path(IIZI)I ways(IIZ)I must(II)I apart(III)I groups(II)I breaks(II)I within(IIZ)I made(I)I
            series(II)I culprits()I tree(II)J tall(I)I chain(II)J middle(II)I least(I)I powers(II)J taken(II)I
            walk(II)I seen(II)I count(I)I image(I)I back(I)I row(III)I write(IIJ)I paste(IIIII)I""";

    public static void main(String[] args) throws Exception {
        face();
        insides();
        words(source());
        CHECK.finish();
    }

    private static String source() throws Exception {
        String text = Files.readString(Path.of("src/main/java/SlatePlay.java"));
        return text.replaceAll("(?s)/\\*.*?\\*/", " ").replaceAll("//[^\n]*", " ").replaceAll("\"[^\"]*\"", "\"\"");
    }

    private static void none(String what, Iterable<?> found) {
        List<Object> all = new ArrayList<>();
        found.forEach(all::add);
        CHECK.due(what + " " + all, all.size(), 0);
    }

    private static void face() throws Exception {
        Set<String> wanted = new TreeSet<>(List.of(FACE.split("\\s+")));
        Set<String> found = new TreeSet<>();
        Set<String> open = new TreeSet<>();
        Set<String> names = new TreeSet<>();
        for (Method m : SlatePlay.class.getDeclaredMethods()) {
            if (Modifier.isPublic(m.getModifiers())) {
                names.add(m.getName());
                found.add(signature(m));
                if (Modifier.isStatic(m.getModifiers())) {
                    open.add("static " + m.getName());
                }
            } else if (!Modifier.isPrivate(m.getModifiers())) {
                open.add(m.getName());
            }
        }
        CHECK.due("57 promises have 56 methods", wanted.size(), 56);
        CHECK.due("face " + found, found.equals(wanted) ? 1 : 0, 1);
        for (Field f : SlatePlay.class.getDeclaredFields()) {
            if (!Modifier.isPrivate(f.getModifiers()) && !f.getName().equals("NONE")) {
                open.add(f.getName());
            }
        }
        none("open members", open);
        Constructor<?>[] made = SlatePlay.class.getDeclaredConstructors();
        CHECK.due("one constructor", made.length, 1);
        CHECK.due("it is public, of nothing",
                Modifier.isPublic(made[0].getModifiers()) && made[0].getParameterCount() == 0 ? 1 : 0, 1);
        CHECK.due("final", Modifier.isFinal(SlatePlay.class.getModifiers()) ? 1 : 0, 1);
        for (Class<?> c : SlatePlay.class.getDeclaredClasses()) {
            for (Method m : c.getDeclaredMethods()) {
                CHECK.due(c.getSimpleName() + "." + m.getName() + " bears a name of the face",
                        names.contains(m.getName()) ? 1 : 0, 0);
            }
        }
    }

    private static String signature(Method m) {
        StringBuilder text = new StringBuilder(m.getName()).append('(');
        for (Class<?> type : m.getParameterTypes()) {
            text.append(type.descriptorString());
        }
        return text.append(')').append(m.getReturnType().descriptorString()).toString();
    }

    private static void insides() {
        List<Class<?>> all = new ArrayList<>(List.of(SlatePlay.class.getDeclaredClasses()));
        CHECK.due("twelve classes at most", all.size() <= 11 ? 1 : 0, 1);
        for (Class<?> c : all) {
            CHECK.due(c + " is static", Modifier.isStatic(c.getModifiers()) ? 1 : 0, 1);
        }
        all.add(SlatePlay.class);
        for (Class<?> c : all) {
            int fields = 0;
            for (Field f : c.getDeclaredFields()) {
                if (Modifier.isStatic(f.getModifiers())) {
                    CHECK.due(f + " is final", Modifier.isFinal(f.getModifiers()) ? 1 : 0, 1);
                    CHECK.due(f + " is a number", f.getType().isPrimitive() ? 1 : 0, 1);
                } else {
                    fields++;
                }
            }
            CHECK.due(c + " has twenty fields at most", fields <= 20 ? 1 : 0, 1);
            for (Method m : c.getDeclaredMethods()) {
                CHECK.due(m + " has seven parameters at most", m.getParameterCount() <= 7 ? 1 : 0, 1);
            }
        }
    }

    private static void words(String source) {
        none("words ruled out", found(source, "\\b(throw|throws|try|catch|synchronized|assert|native|volatile|"
                + "transient|package|instanceof|new Thread|System\\.(?!arraycopy\\b)\\w+|Object|Math\\.\\w+Exact)\\b"));
        none("lambdas and method references", found(source, "->|::"));
        none("imports", found(source, "import (?!java\\.util\\.Arrays;)[^;]*;"));
        none("library calls", found(source, "\\b(Arrays\\.(?!fill\\b)\\w+|Math\\.(?!max\\b|min\\b|floorMod\\b)\\w+|"
                + "Integer\\.(?!bitCount\\b)\\w+)"));
        none("loops without an end in their own lines", found(source, "while \\(true\\)|for \\([^;]*;\\s*;"));
        none("long methods", longMethods(source));
    }

    private static List<String> found(String source, String pattern) {
        List<String> all = new ArrayList<>();
        Matcher m = Pattern.compile(pattern).matcher(source);
        while (m.find()) {
            all.add(m.group());
        }
        return all;
    }

    private static List<String> longMethods(String source) {
        List<String> all = new ArrayList<>();
        Matcher m = Pattern.compile("(?ms)^( {4}| {8})(public|private|static|int|long|boolean|void)\\b[^;=\\n]*\\)"
                + " \\{\\n.*?^\\1\\}$").matcher(source);
        int methods = 0;
        while (m.find()) {
            methods++;
            if (m.group().lines().count() > 60) {
                all.add(m.group().lines().findFirst().orElse(""));
            }
        }
        CHECK.due("methods were found", methods > 100 ? 1 : 0, 1);
        return all;
    }
}
