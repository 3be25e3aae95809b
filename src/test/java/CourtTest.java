import java.lang.reflect.InvocationTargetException;
import java.lang.reflect.Method;
import java.lang.reflect.Modifier;
import java.util.ArrayList;
import java.util.Comparator;
import java.util.List;
import java.util.Random;

/** Runs of calls on an Urnwright and a Court side by side: each call must answer, or throw, the same. */
public final class CourtTest {
    private static final int[] FAR_OFF = {Integer.MIN_VALUE, Integer.MAX_VALUE, -1, 21, 11111, 1 << 30};
    /** An object promises nothing about the calls behind these; the last one of a run is digest(). */
    private static final int MOST_CALLS = 512;
    private static final int[] PATH_DIGITS = {1, 2, 3};
    private final Random random;
    private final List<Method> methods = new ArrayList<>();

    private CourtTest(long seed) {
        random = new Random(seed);
        for (Method method : Urnwright.class.getDeclaredMethods()) {
            if (Modifier.isPublic(method.getModifiers())) {
                methods.add(method);
            }
        }
        methods.sort(Comparator.comparing(Method::getName));
    }

    public static void main(String[] args) throws Exception {
        for (int run = 0; run < 400; run++) {
            new CourtTest(run).run(run, MOST_CALLS - 1);
        }
        everyWalkAndDeck();
        Check.end();
    }

    private void run(int run, int calls) throws Exception {
        Urnwright urnwright = new Urnwright();
        Court court = new Court();
        for (int call = 0; call < calls; call++) {
            Method method = methods.get(random.nextInt(methods.size()));
            if (method.getName().equals("digest") && random.nextInt(4) != 0) {
                continue;
            }
            Object[] args = argsOf(method);
            Object due = answer(Court.class.getMethod(method.getName(), method.getParameterTypes()), court, args);
            Object got = answer(method, urnwright, args);
            String told = "run " + run + " call " + call + ": " + method.getName() + java.util.Arrays.toString(args);
            Check.same(told, due, () -> got);
        }
        long due = court.digest();
        Check.same("run " + run + ": digest at its end", due, urnwright::digest);
    }

    private static Object answer(Method method, Object target, Object[] args) throws IllegalAccessException {
        try {
            Object answer = method.invoke(target, args);
            return answer instanceof Double d ? "bits " + Double.doubleToRawLongBits(d) : answer;
        } catch (InvocationTargetException e) {
            return Check.answerOf(e.getCause().getClass());
        }
    }

    private Object[] argsOf(Method method) {
        Object[] args = new Object[method.getParameterCount()];
        for (int i = 0; i < args.length; i++) {
            args[i] = method.getParameterTypes()[i] == boolean.class ? random.nextBoolean() : numberFor(method.getName(), i);
        }
        if (method.getName().equals("rule") && random.nextInt(8) != 0) {
            int growth = random.nextInt(4);
            int first = random.nextInt(growth + 1);
            int second = random.nextInt(growth - first + 1);
            args[2] = first;
            args[3] = second;
            args[4] = growth - first - second;
        }
        return args;
    }

    private Object numberFor(String name, int place) {
        if (random.nextInt(60) == 0) {
            return FAR_OFF[random.nextInt(FAR_OFF.length)];
        }
        switch (name) {
            case "urn":
                return place == 3 ? among(-1, 3) : random.nextInt(3) == 0 ? 0 : among(0, 5);
            case "row":
                return random.nextInt(3) == 0 ? 0 : among(0, 9);
            case "walk":
                return place == 0 ? among(0, 8) : place == 1 ? among(2, 8) : among(1, 4);
            case "far":
                return place == 0 ? among(1, 5) : among(0, 7);
            case "many":
            case "ofUrn":
                return place == 0 && name.equals("ofUrn") ? among(0, 3) : among(0, 9);
            case "distance":
            case "isAbove":
                return among(0, 3);
            case "table":
                return place < 2 ? among(0, 3) : among(0, 4);
            default:
                return place == 0 ? among(0, 3) : second(name, place);
        }
    }

    private int second(String name, int place) {
        switch (name) {
            case "chance":
            case "wouldGain":
                return path();
            case "pay":
                return place == 1 ? among(0, 2) : among(-5, 5);
            case "stop":
                return place == 1 ? among(0, 3) : random.nextInt(3) == 0 ? among(1, 20) : among(1, 5);
            case "draw":
            case "percent":
                return among(0, 2);
            case "given":
                return place == 2 ? among(0, 2) : among(0, 4);
            case "rule":
                return place == 1 ? among(0, 2) : among(0, 3);
            case "gains":
                return place == 1 ? among(0, 4) : among(-8, 8);
            case "worth":
            case "stops":
                return place == 1 ? among(0, 4) : among(-9, 9);
            case "slack":
                return place == 1 ? among(0, 4) : random.nextInt(3) == 0 ? among(1, 20) : among(1, 8);
            default:
                return among(0, 4);
        }
    }

    private int path() {
        int path = 0;
        for (int draws = random.nextInt(6); draws > 0; draws--) {
            path = 10 * path + (random.nextInt(40) == 0 ? random.nextInt(10) : PATH_DIGITS[random.nextInt(3)]);
        }
        return path;
    }

    private int among(int least, int most) {
        int number = least + random.nextInt(most - least + 1);
        return random.nextInt(40) == 0 ? number + random.nextInt(5) - 2 : number;
    }

    private static void everyWalkAndDeck() {
        Court court = new Court();
        for (int n = 2; n <= 8; n++) {
            for (int from = 0; from <= n; from++) {
                walksFrom(court, from, n);
            }
        }
        Urnwright urnwright = new Urnwright();
        for (int cards = 1; cards <= 5; cards++) {
            for (int times = 0; times <= 7; times++) {
                int c = cards;
                int t = times;
                Check.fraction("far " + c + " " + t, court.far(c, t, false), court.far(c, t, true), b -> urnwright.far(c, t, b));
            }
        }
    }

    private static void walksFrom(Court court, int from, int n) {
        Urnwright urnwright = new Urnwright();
        for (int up = 1; up <= 4; up++) {
            for (int down = 1; down <= 4; down++) {
                int u = up;
                int v = down;
                String told = from + " " + n + " " + u + " " + v;
                Check.fraction("walk " + told, court.walk(from, n, u, v, false, false), court.walk(from, n, u, v, false, true),
                        b -> urnwright.walk(from, n, u, v, false, b));
                Check.fraction("wait " + told, court.walk(from, n, u, v, true, false), court.walk(from, n, u, v, true, true),
                        b -> urnwright.walk(from, n, u, v, true, b));
            }
        }
    }
}
