import java.math.BigDecimal;
import java.math.RoundingMode;
import java.util.ArrayList;
import java.util.List;

/** What is only asked changes nothing, whatever was asked ahead of it; what is told of one URN or ROW is its own alone. */
public final class AskTest {
    interface Ask {
        Object on(Urnwright x);
    }

    interface Maker {
        Urnwright make();
    }

    /** Questions of each kind, of FRACTIONS both parts, and some that are refused. */
    private static final List<Ask> ASKS = List.of(
            x -> x.chance(0, 1213, false), x -> x.chance(1, 0, true), x -> x.chance(2, 3322, true), x -> x.chance(0, 44, false),
            x -> x.gains(0, 4, 1, false), x -> x.gains(2, 2, 0, true), x -> x.gains(0, 5, 0, true),
            x -> x.mean(0, 4, false, false), x -> x.mean(0, 3, true, false), x -> x.mean(2, 1, true, true), x -> x.mean(1, 0, false, true),
            x -> x.unfair(0, 4), x -> x.unfair(2, 2), x -> x.ordered(0, 4), x -> x.ordered(1, 1), x -> x.ordered(0, 2),
            x -> x.given(0, 4, 1, 2, false), x -> x.given(0, 2, 2, 0, true), x -> x.given(1, 1, 2, 1, false),
            x -> x.stopped(0, 4, false, false), x -> x.stopped(0, 4, true, true), x -> x.stopped(1, 2, true, false),
            x -> x.worth(0, 4, -9, false), x -> x.worth(0, 3, 2, true), x -> x.worth(2, 0, -3, false),
            x -> x.slack(0, 4, 5, false), x -> x.slack(2, 2, 1, true), x -> x.slack(0, 1, 0, false),
            x -> x.walk(3, 8, 4, 3, true, false), x -> x.walk(1, 3, 1, 2, false, true), x -> x.walk(3, 2, 1, 1, false, true),
            x -> x.distance(0, 2, false), x -> x.distance(1, 2, true),
            x -> x.table(0, 1, 0, 2, false), x -> x.table(1, 2, 3, 4, true), x -> x.table(2, 2, 0, 0, true), x -> x.table(0, 1, 5, 0, true),
            x -> x.isAbove(1, 0), x -> x.isAbove(0, 1), x -> x.far(5, 7, false), x -> x.far(3, 1, true), x -> x.far(1, 0, false),
            x -> x.ofUrn(0, 5), x -> x.ofUrn(1, 4), x -> x.text(0), x -> x.text(2), x -> x.tilt(0), x -> x.tilt(1),
            x -> x.percent(0, 1), x -> x.percent(2, 0), x -> x.many(2), x -> x.many(6),
            x -> x.wouldGain(0, 1213), x -> x.wouldGain(1, 0), x -> x.wouldGain(1, 3333), x -> x.wouldGain(0, 5),
            x -> x.stops(0, 4, 0), x -> x.stops(2, 2, -1), x -> x.stops(0, 4, 9), x -> x.digest());

    private AskTest() {
    }

    public static void main(String[] args) {
        unchanged();
        afterOthers();
        afterTelling();
        urnsApart();
        rowsApart();
        objectsApart();
        percents();
        tilts();
        Check.end();
    }

    private static void unchanged() {
        Check.sentence("---- what would be (nothing is changed)");
        for (Maker maker : List.<Maker>of(Made::some, Made::full)) {
            Urnwright untouched = maker.make();
            long due = untouched.digest();
            String picture = Picture.of(untouched);
            for (int asked = 0; asked < ASKS.size(); asked++) {
                Ask ask = ASKS.get(asked);
                Urnwright x = maker.make();
                Object first = Check.answerOf(() -> ask.on(x));
                Check.same("asked once more " + asked, first, () -> ask.on(x));
                Check.same("digest() after it " + asked, due, x::digest);
                Check.same("all else after it " + asked, picture, () -> Picture.of(x));
            }
        }
    }

    /** All answers share the same rows inside: none may show in the next one. */
    private static void afterOthers() {
        Check.sentence("Nothing is promised beyond the answers and state changes described above");
        for (Maker maker : List.<Maker>of(Made::some, Made::full)) {
            Urnwright untouched = maker.make();
            List<Object> due = new ArrayList<>();
            ASKS.forEach(ask -> due.add(Check.answerOf(() -> ask.on(untouched))));
            for (int ahead = 0; ahead < ASKS.size(); ahead++) {
                Ask first = ASKS.get(ahead);
                Urnwright x = maker.make();
                for (int asked = 0; asked < ASKS.size(); asked++) {
                    Ask second = ASKS.get(asked);
                    Check.answerOf(() -> first.on(x));
                    Check.same(asked + " behind " + ahead, due.get(asked), () -> second.on(x));
                }
            }
        }
    }

    /** A GAME is of the URN as it is now, not as it was when it was asked for the last time. */
    private static void afterTelling() {
        Check.sentence("A GAME is an URN as it is now");
        Urnwright asked = new Urnwright();
        Urnwright silent = new Urnwright();
        Ask[] told = {x -> x.urn(1, 2, 3, 2), x -> x.row(1, 2, 0, 0, 1), x -> x.pay(0, 0, 4), x -> x.pay(0, 1, -3), x -> x.rule(0, 1, 0, 0, 2),
            x -> x.stop(0, 1, 3), x -> x.draw(0, 2), x -> x.urn(2, 1, 1, -1), x -> x.pay(1, 2, -5), x -> x.draw(1, 0), x -> x.stop(0, 3, 2),
            x -> x.back(0), x -> x.back(0), x -> x.row(0, 0, 5, 5, 0), x -> x.urn(0, 1, 1, 0), x -> x.draw(1, 2), x -> x.draw(0, 1),
            x -> x.pay(2, 1, 1), x -> x.row(9, 0, 0, 0, 9), x -> x.rule(0, 2, 1, 1, 0), x -> x.back(1), x -> x.stop(1, 2, 4)};
        for (int turn = 0; turn < told.length; turn++) {
            Ask tell = told[turn];
            Check.same("told " + turn, tell.on(silent), () -> tell.on(asked));
            for (int more = 0; more < 15; more++) {
                Ask ask = ASKS.get((7 * turn + more) % ASKS.size());
                Check.answerOf(() -> ask.on(asked));
            }
        }
        Check.same("digest", silent.digest(), asked::digest);
        ASKS.forEach(ask -> {
            Object due = Check.answerOf(() -> ask.on(silent));
            Check.same("asked " + ASKS.indexOf(ask), due, () -> ask.on(asked));
        });
    }

    /** All that can be seen of one URN. */
    private static String seen(Urnwright x, int urn) {
        StringBuilder all = new StringBuilder(x.text(urn));
        for (int what = 0; what <= 9; what++) {
            all.append(' ').append(x.ofUrn(urn, what));
        }
        all.append(' ').append(x.tilt(urn)).append(' ').append(x.percent(urn, 1)).append(' ').append(x.wouldGain(urn, 12));
        all.append(' ').append(x.mean(urn, 2, true, false)).append(' ').append(x.stopped(urn, 3, true, false));
        return all.append(' ').append(x.ordered(urn, 3)).append(' ').append(x.chance(urn, 122, true)).toString();
    }

    private static Urnwright fourAlike() {
        Urnwright x = new Urnwright();
        for (int urn = 0; urn < 4; urn++) {
            x.urn(1, 2, 3, 2);
        }
        return x;
    }

    private static void urnsApart() {
        Check.sentence("each with COUNTS of the COLOURS .. a GROWTH .. a RULE .. a PAY .. a GAIN and a PATH");
        Ask[] told = {x -> x.pay(1, 0, 5), x -> x.pay(1, 1, -4), x -> x.rule(1, 0, 0, 1, 1), x -> x.stop(1, 3, 2), x -> x.draw(1, 0),
            x -> x.draw(1, 1), x -> x.back(1), x -> x.back(1), x -> x.back(1), x -> x.draw(1, 2)};
        String alike = seen(Made.with(1, 2, 3, 2), 0);
        for (int turn = 0; turn < told.length; turn++) {
            Urnwright x = fourAlike();
            for (int ahead = 0; ahead < turn; ahead++) {
                told[ahead].on(x);
            }
            String before = seen(x, 1);
            boolean isKnock = turn == 8;
            told[turn].on(x);
            Check.same("seen of it " + turn, isKnock, () -> before.equals(seen(x, 1)));
            for (int other : new int[] {0, 2, 3}) {
                Check.same("told " + turn + " and asked of " + other, alike, () -> seen(x, other));
            }
        }
    }

    private static void rowsApart() {
        Check.sentence("ROWS: at most 4, numbered from 0, each of 5 WEIGHTS");
        int[][] weights = {{1, 2, 3, 4, 5}, {9, 0, 0, 0, 0}, {0, 7, 0, 2, 0}, {1, 1, 1, 1, 1}};
        Urnwright x = new Urnwright();
        for (int row = 0; row < weights.length; row++) {
            int[] w = weights[row];
            x.row(w[0], w[1], w[2], w[3], w[4]);
            x.table(0, row, 4, 4, true);
            for (int place = 0; place < 5; place++) {
                int p = place;
                for (int asked = 0; asked <= row; asked++) {
                    int a = asked;
                    int sum = weights[a][0] + weights[a][1] + weights[a][2] + weights[a][3] + weights[a][4];
                    Check.same("row " + a + " at " + p, weights[a][p] * sum, () -> x.table(a, a, p, p, false));
                }
            }
        }
    }

    private static void objectsApart() {
        Check.sentence("Creates a court without URNS.");
        Urnwright one = Made.some();
        long due = one.digest();
        Urnwright other = Made.full();
        Check.same("another one is told of", due, one::digest);
        Urnwright third = new Urnwright();
        ASKS.forEach(ask -> Check.answerOf(() -> ask.on(other)));
        ASKS.forEach(ask -> Check.answerOf(() -> ask.on(third)));
        Check.same("and asked", due, one::digest);
        Check.same("a new one is empty", 58240L * 31 * 31 * 31 * 31 * 31 * 31 * 31, third::digest);
    }

    private static void percents() {
        Check.sentence("to the nearest whole (of a half to the even one), reckoned as 100.0 times its COUNT, divided by all");
        for (int first = 0; first <= 5; first++) {
            for (int second = 0; second <= 5; second++) {
                for (int third = first + second == 0 ? 1 : 0; third <= 5; third++) {
                    Urnwright x = Made.with(first, second, third, 2);
                    percentsOf(x);
                    // Up to 27 of all: fortieths and eighths with halves are among them.
                    for (int drawn = 0; drawn < 6; drawn++) {
                        x.draw(0, first > 0 ? 0 : second > 0 ? 1 : 2);
                        percentsOf(x);
                    }
                }
            }
        }
    }

    private static void percentsOf(Urnwright x) {
        int all = x.ofUrn(0, 0) + x.ofUrn(0, 1) + x.ofUrn(0, 2);
        for (int colour = 0; colour < 3; colour++) {
            int c = colour;
            BigDecimal hundredths = BigDecimal.valueOf(100L * x.ofUrn(0, c));
            double due = hundredths.divide(BigDecimal.valueOf(all), 0, RoundingMode.HALF_EVEN).doubleValue();
            Check.same(x.text(0) + " of " + c, due, () -> x.percent(0, c));
        }
    }

    private static void tilts() {
        Check.sentence("All these are exact.");
        for (int first = 0; first <= 5; first++) {
            for (int third = 0; third <= 5; third++) {
                for (int pay = -1; pay <= 1; pay++) {
                    Urnwright x = Made.paying(Made.counts(first, 1, third), 0, 0, pay);
                    x.draw(0, 1);
                    int quarters = pay == 0 ? first - third : pay * Math.abs(first - third);
                    Check.same(x.text(0), quarters / 4.0 + 0.0, () -> x.tilt(0));
                    Check.same("many of " + x.text(0), quarters / 4, () -> x.many(6));
                }
            }
        }
    }
}
