import java.nio.file.Files;
import java.nio.file.Path;
import java.util.List;

/** The calls that README.md shows: each one stands there, with what it answers behind it. */
public final class ReadmeTest {
    private static List<String> lines = List.of();
    private static int shown = 0;

    private ReadmeTest() {
    }

    public static void main(String[] args) throws Exception {
        lines = Files.readAllLines(Path.of("README.md"));
        Urnwright court = new Urnwright();
        shows("int urn = court.urn(1, 1, 0, 1);", court.urn(1, 1, 0, 1));
        shows("court.pay(urn, 0, 1);", court.pay(0, 0, 1));
        shows("court.pay(urn, 1, -1);", court.pay(0, 1, -1));
        shows("court.stop(urn, 1, 1);", court.stop(0, 1, 1));
        games(court);
        shows("court.draw(urn, 0);", court.draw(0, 0));
        shows("court.text(urn);", court.text(0));
        shows("court.percent(urn, 0);", court.percent(0, 0));
        shows("court.tilt(urn);", court.tilt(0));
        shows("court.wouldGain(urn, 12);", court.wouldGain(0, 12));
        shows("court.back(urn);", court.back(0));
        rows(court);
        int due = shown;
        Check.same("no other calls are shown", due, () -> (int) lines.stream().filter(line -> line.contains("court.")).count());
        Check.end();
    }

    private static void games(Urnwright court) {
        shows("court.chance(urn, 11, false);", court.chance(0, 11, false));
        shows("court.chance(urn, 11, true);", court.chance(0, 11, true));
        shows("court.gains(urn, 2, 0, true);", court.gains(0, 2, 0, true));
        shows("court.mean(urn, 2, true, false);", court.mean(0, 2, true, false));
        shows("court.unfair(urn, 3);", court.unfair(0, 3));
        shows("court.ordered(urn, 3);", court.ordered(0, 3));
        shows("court.stopped(urn, 3, true, false);", court.stopped(0, 3, true, false));
        shows("court.worth(urn, 3, 0, false);", court.worth(0, 3, 0, false));
        shows("court.stops(urn, 3, 0);", court.stops(0, 3, 0));
    }

    private static void rows(Urnwright court) {
        shows("int one = court.row(1, 1, 0, 0, 0);", court.row(1, 1, 0, 0, 0));
        shows("int other = court.row(0, 1, 1, 1, 0);", court.row(0, 1, 1, 1, 0));
        shows("court.distance(one, other, false);", court.distance(0, 1, false));
        shows("court.table(one, other, 1, 1, true);", court.table(0, 1, 1, 1, true));
        shows("court.isAbove(other, one);", court.isAbove(1, 0));
        shows("court.walk(1, 3, 1, 2, false, true);", court.walk(1, 3, 1, 2, false, true));
        shows("court.far(3, 1, true);", court.far(3, 1, true));
        shows("court.many(1);", court.many(1));
    }

    private static void shows(String call, Object answer) {
        shown++;
        String due = "";
        for (String line : lines) {
            due = line.startsWith(call + " ") ? line.substring(line.indexOf("//") + 2).strip() : due;
        }
        Check.same("README.md: " + call, due, answer::toString);
    }
}
