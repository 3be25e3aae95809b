import java.lang.reflect.Constructor;
import java.lang.reflect.Method;
import java.lang.reflect.Modifier;
import java.nio.file.Files;
import java.nio.file.Path;
import java.util.ArrayList;
import java.util.Arrays;
import java.util.Collections;
import java.util.List;
import java.util.regex.Matcher;
import java.util.regex.Pattern;

/** What can be seen of ../shared/LANGUAGE.md and of the face in the source and in the class; its argument is the source file. */
public final class LanguageTest {
    private static final List<String> FACE = List.of(
            "int urn(int, int, int, int)", "int rule(int, int, int, int, int)", "int pay(int, int, int)", "int stop(int, int, int)",
            "int draw(int, int)", "int back(int)", "int row(int, int, int, int, int)", "long chance(int, int, boolean)",
            "long gains(int, int, int, boolean)", "long mean(int, int, boolean, boolean)", "int unfair(int, int)",
            "int ordered(int, int)", "long given(int, int, int, int, boolean)", "long stopped(int, int, boolean, boolean)",
            "long worth(int, int, int, boolean)", "long slack(int, int, int, boolean)",
            "long walk(int, int, int, int, boolean, boolean)", "long distance(int, int, boolean)",
            "int table(int, int, int, int, boolean)", "boolean isAbove(int, int)", "long far(int, int, boolean)",
            "int ofUrn(int, int)", "String text(int)", "double tilt(int)", "double percent(int, int)", "int many(int)",
            "int wouldGain(int, int)", "int stops(int, int, int)", "long digest()");
    /** Rules 2 to 6, 10 and 13, and catching what the machine throws: what has no place in the source. */
    private static final List<String> NEVER = List.of("\\)\\s*->", "[(=]\\s*\\w+\\s*->", "::", "\\bpackage\\b", "\\bfinally\\b", "\\bassert\\b",
            "\\bsynchronized\\b", "\\bstatic\\s*\\{", "\\bimport\\s+(?!java\\.util\\.(ArrayList|Arrays|Iterator|List|NoSuchElementException);)",
            "\\bSystem\\.(?!arraycopy)", "Exact\\b", "\\bThread\\b", "\\bRandom\\b", "\\bhashCode\\b", "\"\\s*\\+", "\\+\\s*\"", "[^\\x00-\\x7f]",
            "\\bpublic\\s+static\\b", "\\bprotected\\b", "\\bcatch\\s*\\([^)]*\\b(Throwable|Exception|Error|ArrayIndexOutOfBoundsException"
            + "|NullPointerException|ClassCastException|NegativeArraySizeException|ArrayStoreException)\\b");

    private LanguageTest() {
    }

    public static void main(String[] args) throws Exception {
        face();
        source(Files.readString(Path.of(args[0])));
        Check.end();
    }

    private static void face() {
        List<String> due = new ArrayList<>(FACE);
        List<String> got = new ArrayList<>();
        List<String> hidden = new ArrayList<>();
        for (Method method : Urnwright.class.getDeclaredMethods()) {
            if (Modifier.isPrivate(method.getModifiers())) {
                hidden.add(method.getName());
                continue;
            }
            got.add(told(method));
            Check.same("rule 1: public " + method, Modifier.PUBLIC, method::getModifiers);
        }
        Collections.sort(due);
        Collections.sort(got);
        Check.same("the face", due.toString(), got::toString);
        for (Method method : Urnwright.class.getDeclaredMethods()) {
            if (Modifier.isPublic(method.getModifiers())) {
                Check.same("rule 1: no private " + method.getName(), false, () -> hidden.contains(method.getName()));
            }
        }
        Constructor<?>[] constructors = Urnwright.class.getDeclaredConstructors();
        Check.same("one public constructor", "[public Urnwright()]", () -> Arrays.toString(constructors));
        Check.same("public and final", Modifier.PUBLIC | Modifier.FINAL, () -> Urnwright.class.getModifiers());
        Arrays.stream(Urnwright.class.getDeclaredFields()).forEach(field -> Check.same("rule 1: private " + field, true,
                () -> Modifier.isPrivate(field.getModifiers()) && (!Modifier.isStatic(field.getModifiers()) || Modifier.isFinal(field.getModifiers()))));
    }

    private static String told(Method method) {
        StringBuilder told = new StringBuilder(method.getReturnType().getSimpleName()).append(' ').append(method.getName()).append('(');
        String between = "";
        for (Class<?> type : method.getParameterTypes()) {
            told.append(between).append(type.getSimpleName());
            between = ", ";
        }
        return told.append(')').toString();
    }

    private static void source(String whole) {
        String code = Pattern.compile("/\\*.*?\\*/|//[^\n]*", Pattern.DOTALL).matcher(whole).replaceAll(" ");
        for (String never : NEVER) {
            Matcher found = Pattern.compile(never).matcher(code);
            Check.same("LANGUAGE.md: no " + never, false, found::find);
        }
        Matcher method = Pattern.compile("\n( {4}| {8})[a-zA-Z][^;={}]*\\([^;{}]*\\{\n(.*?)\n\\1\\}", Pattern.DOTALL).matcher(code);
        while (method.find()) {
            long lines = method.group(2).lines().count();
            String body = method.group();
            Check.same("rule 11: short: " + body.strip().lines().findFirst().orElse(""), true, () -> lines <= 60);
        }
    }
}
