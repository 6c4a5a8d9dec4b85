import java.io.IOException;
import java.lang.reflect.Constructor;
import java.lang.reflect.Field;
import java.lang.reflect.Method;
import java.lang.reflect.Modifier;
import java.nio.charset.StandardCharsets;
import java.nio.file.Files;
import java.nio.file.Path;
import java.util.Set;
import java.util.TreeSet;
import java.util.regex.Matcher;
import java.util.regex.Pattern;

/** Rules of ../shared/LANGUAGE.md that can be seen from the source or by reflection. */
public final class LanguageTest {
    private static final Check CHECK = new Check("LanguageTest");
    private static final String FACE = "alike(int,int) answer() byteAt(int) chain(int,int,int,int,int) copy(int) "
        + "count(int) deed(int,int) depth(int) enclose(int,int) feed(long,int) find(int,int,int) mark(int) meter(int) "
        + "of(int,int) order(int) part(int,int) read() size(int) tear() thin(int,int) way(int) widest(int,int) "
        + "worth(int) write(int)";

    public static void main(String[] args) throws IOException {
        rule1Face();
        rule1Members();
        rule11Sizes();
        String source = Files.readString(Path.of("src/main/java/NestedDeeds.java"), StandardCharsets.ISO_8859_1);
        forbiddenWords(source.replaceAll("(?s)/\\*.*?\\*/", " ").replaceAll("//[^\n]*", " "));
        rule8OpenCalls(source);
        rule11Lines(source);
        CHECK.finish();
    }

    private static void rule1Face() {
        Set<String> face = new TreeSet<>();
        for (Method method : NestedDeeds.class.getDeclaredMethods()) {
            if (Modifier.isPublic(method.getModifiers())) {
                String all = method.toString();
                face.add(method.getName() + all.substring(all.indexOf('(')));
            }
        }
        CHECK.due("1 the face", String.join(" ", face), FACE);
        Constructor<?>[] constructors = NestedDeeds.class.getDeclaredConstructors();
        CHECK.due("1 constructors", constructors.length, 1);
        CHECK.due("1 final", Modifier.isFinal(NestedDeeds.class.getModifiers()) ? 1 : 0, 1);
    }

    private static void rule1Members() {
        Set<String> publicNames = new TreeSet<>();
        for (String call : FACE.split(" ")) {
            publicNames.add(call.substring(0, call.indexOf('(')));
        }
        for (Method method : NestedDeeds.class.getDeclaredMethods()) {
            boolean open = Modifier.isPublic(method.getModifiers());
            CHECK.due("1 " + method + " is hidden", open || Modifier.isPrivate(method.getModifiers()) ? 1 : 0, 1);
            CHECK.due("1 " + method + " has its own name", !open && publicNames.contains(method.getName()) ? 1 : 0, 0);
        }
        for (Class<?> inside : NestedDeeds.class.getDeclaredClasses()) {
            CHECK.due("2 " + inside + " is static", Modifier.isStatic(inside.getModifiers()) ? 1 : 0, 1);
            for (Method method : inside.getDeclaredMethods()) {
                CHECK.due("1 " + method + " has its own name", publicNames.contains(method.getName()) ? 1 : 0, 0);
            }
        }
        int shown = 0;
        for (Field field : NestedDeeds.class.getDeclaredFields()) {
            shown += Modifier.isPrivate(field.getModifiers()) ? 0 : 1;
        }
        CHECK.due("1 constants of the face", shown, 6);
    }

    private static void rule11Sizes() {
        Class<?>[] inside = NestedDeeds.class.getDeclaredClasses();
        CHECK.due("11 classes", inside.length < 12 ? 1 : 0, 1);
        checkSize(NestedDeeds.class);
        for (Class<?> one : inside) {
            checkSize(one);
        }
    }

    private static void checkSize(Class<?> one) {
        int fields = 0;
        for (Field field : one.getDeclaredFields()) {
            boolean isStatic = Modifier.isStatic(field.getModifiers());
            fields += isStatic ? 0 : 1;
            CHECK.due("5 " + field, isStatic && !Modifier.isFinal(field.getModifiers()) ? 1 : 0, 0);
        }
        CHECK.due("11 fields of " + one, fields <= 20 ? 1 : 0, 1);
        for (Method method : one.getDeclaredMethods()) {
            CHECK.due("11 parameters of " + method, method.getParameterCount() <= 7 ? 1 : 0, 1);
        }
    }

    private static void forbiddenWords(String code) {
        String[] words = {"\\bthrow\\b", "\\btry\\b", "\\bcatch\\b", "\\bsynchronized\\b", "\\bassert\\b",
            "\\bimport\\b", "\\bpackage\\b", "\\bprotected\\b", "->", "::", "@", "\"", "\\bObject\\b", "\\bvar\\b",
            "Exact\\b", "\\bwhile\\b", "\\bdouble\\b", "\\bfloat\\b", "\\bnull\\b"};
        for (String word : words) {
            Matcher matcher = Pattern.compile(word).matcher(code);
            CHECK.due("the code has " + word, matcher.find() ? 1 : 0, 0);
        }
    }

    /** A method begins and ends at the indentation of members, of the class or of one inside it. */
    private static void rule11Lines(String source) {
        Pattern method = Pattern.compile("(?m)^( {4}| {8})(?! |/|\\})[^\n;=]*\\([^\n;=]*\\) \\{\n(.*\n)*?\\1\\}\n");
        Matcher matcher = method.matcher(source);
        int found = 0;
        for (; matcher.find(); found++) {
            int lines = matcher.group().split("\n").length;
            CHECK.due("11 lines of" + matcher.group().split("\n")[0], lines <= 60 ? 1 : 0, 1);
        }
        CHECK.due("11 methods are found: " + found, found > 80 ? 1 : 0, 1);
    }

    /** Own calls, and those around them (eight at most), stay under 300. */
    private static void rule8OpenCalls(String source) {
        Matcher matcher = Pattern.compile("MOST_OWN_CALLS = (\\d+);").matcher(source);
        CHECK.due("8 own calls", matcher.find() && Integer.parseInt(matcher.group(1)) + 8 < 300 ? 1 : 0, 1);
    }
}
