import java.lang.reflect.Executable;
import java.lang.reflect.Field;
import java.lang.reflect.Method;
import java.lang.reflect.Modifier;
import java.nio.file.Files;
import java.nio.file.Path;
import java.util.ArrayList;
import java.util.Arrays;
import java.util.List;
import java.util.Set;
import java.util.TreeMap;
import java.util.TreeSet;
import java.util.regex.Matcher;
import java.util.regex.Pattern;

/** What can be seen of ../shared/LANGUAGE.md, rule by rule, in the source and in the class; the argument is the source file. */
public final class LanguageTest {
    private static final int MOST_LINES = 60;
    private static final int MOST_CALLS = 8;
    private static final int MOST_PARAMETERS = 7;
    private static final int MOST_CLASSES = 12;
    private static final int MOST_FIELDS = 20;
    /** Rules 2 to 6, 10 and 13, and catching what the machine throws: what has no place in the source. */
    private static final List<String> NEVER = List.of("\\)\\s*->", "[(=]\\s*\\w+\\s*->", "::", "\\bpackage\\b", "\\bfinally\\b", "\\bassert\\b",
            "\\bsynchronized\\b", "\\bstatic\\s*\\{", "\\bimport\\s+(?!java\\.util\\.(ArrayList|Arrays|Iterator|List|NoSuchElementException);)",
            "\\bSystem\\.(?!arraycopy)", "Exact\\b", "\\bThread\\b", "\\bRandom\\b", "\\bhashCode\\b", "\"\\s*\\+", "\\+\\s*\"", "[^\\x00-\\x7f]",
            "\\bpublic\\s+static\\b", "\\bprotected\\b", "\\bcatch\\s*\\([^)]*\\b(Throwable|Exception|Error|ArrayIndexOutOfBoundsException"
            + "|NullPointerException|ClassCastException|NegativeArraySizeException|ArrayStoreException)\\b");
    private static final Set<String> EXCEPTIONS = Set.of("IllegalStateException", "IllegalArgumentException", "IndexOutOfBoundsException",
            "ArithmeticException", "UnsupportedOperationException", "NoSuchElementException", "RuntimeException");
    /** All that the source needs of the library, by rule 4. */
    private static final Set<String> LIBRARY = Set.of("Math.abs", "Math.max", "Math.min", ".append", ".toString");

    /** The bodies of the methods, by their names. */
    private final TreeMap<String, List<String>> bodies = new TreeMap<>();
    private final String code;

    private LanguageTest(String whole) {
        String bare = Pattern.compile("/\\*.*?\\*/|//[^\n]*", Pattern.DOTALL).matcher(whole).replaceAll(" ");
        code = bare;
        Matcher method = Pattern.compile("\n( {4}| {8})(?:public |private )(?:static )?[\\w\\[\\]]+ (\\w+)\\([^;{}]*\\{\n(.*?)\n\\1\\}", Pattern.DOTALL)
                .matcher(bare);
        while (method.find()) {
            bodies.computeIfAbsent(method.group(2), name -> new ArrayList<>()).add(method.group(3));
        }
    }

    interface Look {
        void at(String name, String body);
    }

    private void eachBody(Look look) {
        bodies.forEach((name, all) -> all.forEach(body -> look.at(name, body)));
    }

    public static void main(String[] args) throws Exception {
        LanguageTest test = new LanguageTest(Files.readString(Path.of(args[0])));
        test.members();
        test.words();
        test.library();
        test.exceptions();
        test.indices();
        test.divisors();
        test.loops();
        test.depth();
        test.sizes();
        Check.end();
    }

    private static List<Class<?>> classes() {
        List<Class<?>> all = new ArrayList<>(List.of(Urnwright.class));
        all.addAll(Arrays.asList(Urnwright.class.getDeclaredClasses()));
        return all;
    }

    private void members() {
        Check.sentence("LANGUAGE.md 1: no other public, protected or package-visible member .. No private method bears the name of a public one.");
        Set<String> open = new TreeSet<>();
        for (Method method : Urnwright.class.getDeclaredMethods()) {
            if (Modifier.isPublic(method.getModifiers())) {
                open.add(method.getName());
            }
        }
        for (Class<?> type : classes()) {
            for (Method method : type.getDeclaredMethods()) {
                boolean isOpen = type == Urnwright.class && Modifier.isPublic(method.getModifiers());
                Check.same("" + method, true, () -> isOpen || Modifier.isPrivate(method.getModifiers()) && !open.contains(method.getName()));
            }
        }
        Check.sentence("LANGUAGE.md 2: the classes inside are private or package-visible and static");
        for (Class<?> type : Urnwright.class.getDeclaredClasses()) {
            Check.same("" + type, true, () -> Modifier.isStatic(type.getModifiers()) && !Modifier.isPublic(type.getModifiers()));
        }
        Check.sentence("LANGUAGE.md 3: arrays of these and of your own classes, of one dimension. LANGUAGE.md 5: Static fields are final");
        for (Class<?> type : classes()) {
            for (Field field : type.getDeclaredFields()) {
                Check.same("" + field, true, () -> Modifier.isPrivate(field.getModifiers()) && isKept(field));
            }
        }
    }

    /** A constant of a plain type, or a field of a type that rule 3 names. */
    private static boolean isKept(Field field) {
        if (Modifier.isStatic(field.getModifiers())) {
            return Modifier.isFinal(field.getModifiers()) && field.getType().isPrimitive();
        }
        Class<?> type = field.getType().isArray() ? field.getType().getComponentType() : field.getType();
        return type.isPrimitive() || type.getEnclosingClass() == Urnwright.class;
    }

    private void words() {
        Check.sentence("LANGUAGE.md 2 to 6, 10, 13");
        for (String never : NEVER) {
            Check.same("no " + never, false, () -> Pattern.compile(never).matcher(code).find());
        }
    }

    private void library() {
        Check.sentence("LANGUAGE.md 4: The library: only what stands here.");
        Matcher call = Pattern.compile("(\\w*)\\.(\\w+)\\(").matcher(code);
        while (call.find()) {
            String name = call.group(2);
            String whole = call.group();
            boolean isOurs = bodies.containsKey(name) && !Character.isUpperCase((call.group(1) + "x").charAt(0));
            Check.same(whole, true, () -> isOurs || LIBRARY.stream().anyMatch(known -> whole.endsWith(known + "(")));
        }
    }

    private void exceptions() {
        Check.sentence("LANGUAGE.md 6: throw new E() or throw new E(\"a written text\") .. no throw in a constructor");
        Matcher thrown = Pattern.compile("\\bthrow\\b\\s*(new (\\w+)\\((\"[^\"]*\")?\\);)?").matcher(code);
        int all = 0;
        while (thrown.find()) {
            all++;
            String whole = thrown.group();
            Check.same(whole, true, () -> thrown.group(2) != null && EXCEPTIONS.contains(thrown.group(2)));
        }
        int[] inMethods = {0};
        eachBody((name, body) -> inMethods[0] += body.split("\\bthrow\\b", -1).length - 1);
        Check.same("all of them in methods", all, () -> inMethods[0]);
    }

    private void indices() {
        Check.sentence("LANGUAGE.md 7: an index is looked at before it is used");
        eachBody((name, body) -> {
            Matcher index = Pattern.compile("(?<!new )\\b\\w+\\[([^\\]]+)\\]").matcher(body);
            while (index.find()) {
                String used = index.group(1);
                boolean isLookedAt = Pattern.compile(used + " (>= 0 && " + used + " <|< 0 \\|\\| " + used + " >=) \\w+\\.length").matcher(body).find();
                Check.same(name + ": " + used, true, () -> isLookedAt);
            }
        });
    }

    private void divisors() {
        Check.sentence("LANGUAGE.md 7: a divisor before it divides");
        eachBody((name, body) -> {
            Matcher divisor = Pattern.compile("[/%]=? ([\\w.]+)").matcher(body);
            while (divisor.find()) {
                String used = divisor.group(1);
                boolean isConstant = used.matches("[1-9][0-9.]*|[A-Z_]+");
                Check.same(name + ": " + used, true, () -> isConstant || Pattern.compile("\\b" + used + " (<=|!=|==) 0").matcher(body).find());
            }
        });
    }

    private void loops() {
        Check.sentence("LANGUAGE.md 9: Every loop has an end that can be seen from its own lines");
        Check.same("no while", false, () -> Pattern.compile("\\b(while|do)\\b").matcher(code).find());
        Matcher loop = Pattern.compile("\\bfor (\\(.*\\)) \\{").matcher(code);
        while (loop.find()) {
            String header = loop.group(1);
            String counted = "\\((?:int|long) (\\w+) = [^;]+; \\1 (<=? [^;]+; \\1\\+\\+|>=? [^;]+; \\1--)\\)";
            Check.same(header, true, () -> header.matches(counted) || header.matches("\\(\\w+ \\w+ : \\w+\\)"));
        }
    }

    private void depth() {
        Check.sentence("LANGUAGE.md 11: calls that are no recursion go at most eight deep");
        for (String name : bodies.keySet()) {
            Check.same("from " + name, true, () -> depthOf(name, 0) <= MOST_CALLS);
        }
    }

    /** How many calls stand open at once at most; a method that comes back to itself goes beyond any bound. */
    private int depthOf(String name, int above) {
        if (above > bodies.size()) {
            return 1;
        }
        int deepest = 0;
        Matcher call = Pattern.compile("\\b(\\w+)\\(").matcher(String.join("\n", bodies.get(name)));
        Set<String> called = new TreeSet<>();
        while (call.find()) {
            called.add(call.group(1));
        }
        for (String next : called) {
            deepest = bodies.containsKey(next) ? Math.max(deepest, depthOf(next, above + 1)) : deepest;
        }
        return deepest + 1;
    }

    private void sizes() {
        Check.sentence("LANGUAGE.md 11: at most seven parameters .. some sixty lines .. some twelve classes .. some twenty fields");
        Check.same("classes", true, () -> classes().size() <= MOST_CLASSES);
        for (Class<?> type : classes()) {
            List<Executable> all = new ArrayList<>(Arrays.asList(type.getDeclaredMethods()));
            all.addAll(Arrays.asList(type.getDeclaredConstructors()));
            all.forEach(one -> Check.same("" + one, true, () -> one.getParameterCount() <= MOST_PARAMETERS));
            long fields = Arrays.stream(type.getDeclaredFields()).filter(field -> !Modifier.isStatic(field.getModifiers())).count();
            Check.same("fields of " + type, true, () -> fields <= MOST_FIELDS);
        }
        eachBody((name, body) -> Check.same(name, true, () -> body.lines().count() <= MOST_LINES));
    }
}
