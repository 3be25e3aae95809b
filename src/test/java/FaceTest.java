import java.lang.reflect.Constructor;
import java.lang.reflect.Method;
import java.lang.reflect.Modifier;
import java.nio.file.Files;
import java.nio.file.Path;
import java.util.ArrayList;
import java.util.Arrays;
import java.util.Collections;
import java.util.List;

/** 'The public face' of the document, each line with its exceptions and under its heading; the argument is the source file. */
public final class FaceTest {
    /** The lines as they stand in the document, and ahead of which of them the interface says what. */
    private static final List<String> FACE = List.of(
            "public final class Urnwright",
            "public Urnwright();",
            "---- what is told",
            "public int urn(int first, int second, int third, int growth) throws IllegalArgumentException, IllegalStateException;",
            "public int rule(int urn, int colour, int first, int second, int third) throws IndexOutOfBoundsException, IllegalArgumentException;",
            "public int pay(int urn, int colour, int pay) throws IndexOutOfBoundsException, IllegalArgumentException;",
            "public int stop(int urn, int kind, int number) throws IndexOutOfBoundsException, IllegalArgumentException;",
            "public int draw(int urn, int colour) throws IndexOutOfBoundsException, IllegalStateException;",
            "public int back(int urn) throws IndexOutOfBoundsException;",
            "public int row(int a, int b, int c, int d, int e) throws IllegalArgumentException, IllegalStateException;",
            "---- games",
            "public long chance(int urn, int path, boolean isBelow) throws IndexOutOfBoundsException, IllegalArgumentException;",
            "public long gains(int urn, int steps, int gain, boolean isBelow) throws IndexOutOfBoundsException, IllegalArgumentException;",
            "public long mean(int urn, int steps, boolean isSpread, boolean isBelow) throws IndexOutOfBoundsException, IllegalArgumentException;",
            "public int unfair(int urn, int steps) throws IndexOutOfBoundsException, IllegalArgumentException;",
            "public int ordered(int urn, int steps) throws IndexOutOfBoundsException, IllegalArgumentException;",
            "public long given(int urn, int steps, int colour, int times, boolean isBelow) throws IndexOutOfBoundsException, IllegalArgumentException, IllegalStateException;",
            "public long stopped(int urn, int steps, boolean isTime, boolean isBelow) throws IndexOutOfBoundsException, IllegalArgumentException;",
            "public long worth(int urn, int steps, int strike, boolean isBelow) throws IndexOutOfBoundsException, IllegalArgumentException;",
            "public long slack(int urn, int steps, int limit, boolean isBelow) throws IndexOutOfBoundsException, IllegalArgumentException;",
            "---- walks, tables, decks",
            "public long walk(int from, int n, int up, int down, boolean isWait, boolean isBelow) throws IllegalArgumentException;",
            "public long distance(int one, int other, boolean isBelow) throws IndexOutOfBoundsException;",
            "public int table(int one, int other, int place, int its, boolean isStaying) throws IndexOutOfBoundsException;",
            "public boolean isAbove(int one, int other) throws IndexOutOfBoundsException;",
            "public long far(int cards, int times, boolean isBelow) throws IllegalArgumentException;",
            "---- what one asks of what is there",
            "public int ofUrn(int urn, int what) throws IndexOutOfBoundsException, IllegalArgumentException;",
            "public String text(int urn) throws IndexOutOfBoundsException;",
            "public double tilt(int urn) throws IndexOutOfBoundsException;",
            "public double percent(int urn, int colour) throws IndexOutOfBoundsException;",
            "public int many(int what) throws IllegalArgumentException;",
            "---- what would be (nothing is changed)",
            "public int wouldGain(int urn, int path) throws IndexOutOfBoundsException, IllegalArgumentException, IllegalStateException;",
            "public int stops(int urn, int steps, int strike) throws IndexOutOfBoundsException, IllegalArgumentException;",
            "public long digest();");

    private FaceTest() {
    }

    public static void main(String[] args) throws Exception {
        lines(Files.readAllLines(Path.of(args[0])));
        methods();
        noMore();
        Check.end();
    }

    /** Each line of the face stands in the source, with the names of what it is given, in the document's order. */
    private static void lines(List<String> source) {
        int at = 0;
        for (String line : FACE) {
            Check.sentence(line);
            String due = line.startsWith("----") ? "// " + line : line.replace(";", "") + " {";
            int found = at;
            while (found < source.size() && !source.get(found).strip().equals(due)) {
                found++;
            }
            boolean isThere = found < source.size();
            Check.same("behind the line ahead of it", true, () -> isThere);
            at = isThere ? found + 1 : at;
        }
    }

    /** What the compiled class has, with its exceptions in their order. */
    private static void methods() {
        Check.sentence("The public face");
        List<String> due = new ArrayList<>();
        for (String line : FACE) {
            if (line.endsWith(";") && !line.contains("Urnwright")) {
                due.add(line.replaceAll("\\b(int|boolean) \\w+(?=[,)])", "$1").replace(";", ""));
            }
        }
        List<String> got = new ArrayList<>();
        for (Method method : Urnwright.class.getDeclaredMethods()) {
            if (!Modifier.isPrivate(method.getModifiers())) {
                got.add(told(method));
            }
        }
        Collections.sort(due);
        Collections.sort(got);
        Check.same("29 methods", 29, due::size);
        for (String line : due) {
            Check.same(line, true, () -> got.contains(line));
        }
        Check.same("no others", due.toString(), got::toString);
    }

    private static String told(Method method) {
        String told = Modifier.toString(method.getModifiers()) + " " + method.getReturnType().getSimpleName() + " " + method.getName()
                + "(" + names(method.getParameterTypes()) + ")";
        return method.getExceptionTypes().length == 0 ? told : told + " throws " + names(method.getExceptionTypes());
    }

    private static String names(Class<?>[] types) {
        List<String> names = new ArrayList<>();
        for (Class<?> type : types) {
            names.add(type.getSimpleName());
        }
        return String.join(", ", names);
    }

    private static void noMore() {
        Check.sentence("public final class Urnwright");
        Check.same("public and final", Modifier.PUBLIC | Modifier.FINAL, Urnwright.class::getModifiers);
        Check.same("without a package", "", Urnwright.class::getPackageName);
        Constructor<?>[] constructors = Urnwright.class.getDeclaredConstructors();
        Check.same("one public constructor that throws nothing", "[public Urnwright()]", () -> Arrays.toString(constructors));
        Check.same("no constants", 0, () -> Urnwright.class.getFields().length);
        Check.same("no class that is seen from outside", 0, () -> Urnwright.class.getClasses().length);
    }
}
