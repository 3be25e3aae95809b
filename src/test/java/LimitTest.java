/**
 * The 'Throws' lines of the promises: the last value that is let through and the first that is refused, on both sides,
 * which exception is thrown where several apply, and that what is refused changes nothing.
 */
public final class LimitTest {
    private static final Class<IndexOutOfBoundsException> INDEX = IndexOutOfBoundsException.class;
    private static final Class<IllegalArgumentException> ARGUMENT = IllegalArgumentException.class;
    private static final Class<IllegalStateException> STATE = IllegalStateException.class;
    private static final int MOST = Integer.MAX_VALUE;
    private static final int LEAST = Integer.MIN_VALUE;
    private static final String NO_URN = "Throws IndexOutOfBoundsException if there is no such URN";
    private static final String NO_COLOUR = "Throws IndexOutOfBoundsException if there is no such URN, or COLOUR";
    private static final String NO_STEPS = "Throws IllegalArgumentException if steps are none of a GAME of it";
    private static final String NO_PATH = "Throws IllegalArgumentException if path is no PATH of 0 to 4 DRAWS";
    private static final String FIRST_NAMED = "If several exceptions apply, the one that is named first is thrown.";

    interface Maker {
        Urnwright make();
    }

    interface Use {
        Object on(Urnwright x);
    }

    interface Asked {
        Object on(Urnwright x, int number);
    }

    interface Game {
        Object on(Urnwright x, int urn, int steps);
    }

    private LimitTest() {
    }

    public static void main(String[] args) {
        urn();
        rule();
        pay();
        stop();
        draw();
        back();
        row();
        chance();
        game("10 gains", (x, urn, steps) -> x.gains(urn, steps, 0, false));
        game("11 mean", (x, urn, steps) -> x.mean(urn, steps, false, true));
        game("11 spread", (x, urn, steps) -> x.mean(urn, steps, true, false));
        game("12 unfair", (x, urn, steps) -> x.unfair(urn, steps));
        game("13 ordered", (x, urn, steps) -> x.ordered(urn, steps));
        game("14 given", (x, urn, steps) -> x.given(urn, steps, 2, 0, false));
        game("15 stopped time", (x, urn, steps) -> x.stopped(urn, steps, true, true));
        game("15 stopped yield", (x, urn, steps) -> x.stopped(urn, steps, false, false));
        game("16 worth", (x, urn, steps) -> x.worth(urn, steps, 0, false));
        game("17 slack", (x, urn, steps) -> x.slack(urn, steps, 1, true));
        game("29 stops", (x, urn, steps) -> x.stops(urn, steps, 0));
        given();
        strike();
        slack();
        walk();
        pairsOfRows();
        table();
        far();
        ofUrn();
        askedOfAnUrn();
        many();
        wouldGain();
        digest();
        Check.end();
    }

    private static void letsThrough(String what, Maker maker, Use use) {
        Urnwright x = maker.make();
        Check.letsThrough(what, () -> use.on(x));
    }

    private static void refused(String what, Class<? extends RuntimeException> due, Maker maker, Use use) {
        Urnwright x = maker.make();
        long before = x.digest();
        Check.throwing(what, due, () -> use.on(x));
        Check.same(what + ", digest() after it", before, x::digest);
        Check.same(what + ", all else after it", Picture.of(maker.make()), () -> Picture.of(x));
    }

    /** least and most are let through, what is beyond them is refused. */
    private static void limits(String what, Class<? extends RuntimeException> due, Maker maker, int least, int most, Asked asked) {
        for (int good : new int[] {least, most}) {
            letsThrough(what + " " + good, maker, x -> asked.on(x, good));
        }
        for (int bad : new int[] {least - 1, most + 1, LEAST, MOST}) {
            refused(what + " " + bad, due, maker, x -> asked.on(x, bad));
        }
    }

    /** Without URNS none is there; with three of them 0 to 2 are; with four 0 to 3. */
    private static void urns(String what, Asked asked) {
        for (int number : new int[] {0, -1, 1}) {
            refused(what + " without urns " + number, INDEX, Made::empty, x -> asked.on(x, number));
        }
        limits(what + " of three urns", INDEX, Made::some, 0, 2, asked);
        letsThrough(what + " the last of four urns", Made::full, x -> asked.on(x, 3));
        refused(what + " behind four urns", INDEX, Made::full, x -> asked.on(x, 4));
    }

    private static void colours(String what, Asked asked) {
        limits(what + " colour", INDEX, Made::some, 0, 2, asked);
    }

    private static void firstNamed(String what, Class<? extends RuntimeException> due, Maker maker, Use use) {
        refused(what, due, maker, use);
    }

    private static void urn() {
        Check.sentence("2: Throws IllegalArgumentException if a COUNT is not 0 to 5, all are 0, or growth is not -1 to 3");
        limits("first", ARGUMENT, Made::some, 0, 5, (x, n) -> x.urn(n, 1, 0, 0));
        limits("second", ARGUMENT, Made::some, 0, 5, (x, n) -> x.urn(1, n, 0, 0));
        limits("third", ARGUMENT, Made::some, 0, 5, (x, n) -> x.urn(0, 1, n, 0));
        limits("growth", ARGUMENT, Made::some, -1, 3, (x, n) -> x.urn(5, 5, 5, n));
        letsThrough("all but one are 0", Made::empty, x -> x.urn(1, 0, 0, -1));
        letsThrough("all but the last are 0", Made::empty, x -> x.urn(0, 0, 1, 3));
        for (int growth = -1; growth <= 3; growth++) {
            int g = growth;
            refused("all are 0", ARGUMENT, Made::empty, x -> x.urn(0, 0, 0, g));
        }
        refused("0 together only with one below 0", ARGUMENT, Made::some, x -> x.urn(1, -1, 0, 0));
        refused("0 together only by a wrap-around", ARGUMENT, Made::some, x -> x.urn(LEAST, LEAST, 0, 0));
        Check.sentence("2: Throws IllegalStateException if there are 4");
        letsThrough("the fourth", Made::some, x -> x.urn(1, 1, 1, 1));
        Check.same("the number of the fourth", 3, () -> Made.some().urn(1, 1, 1, 1));
        refused("the fifth", STATE, Made::full, x -> x.urn(1, 1, 1, 1));
        Check.sentence("2: " + FIRST_NAMED);
        firstNamed("a wrong count in a fifth", ARGUMENT, Made::full, x -> x.urn(1, 6, 1, 1));
        firstNamed("a fifth with all 0", ARGUMENT, Made::full, x -> x.urn(0, 0, 0, 1));
        firstNamed("a wrong growth in a fifth", ARGUMENT, Made::full, x -> x.urn(1, 1, 1, 4));
    }

    private static void rule() {
        Check.sentence("3: " + NO_COLOUR);
        urns("rule", (x, urn) -> x.rule(urn, 1, urn == 0 ? 2 : 0, 0, 0));
        colours("rule", (x, colour) -> x.rule(0, colour, 0, 1, 1));
        Check.sentence("3: Throws IllegalArgumentException if one of these is below 0, or they are not GROWTH together");
        letsThrough("the first one all", Made::some, x -> x.rule(0, 0, 2, 0, 0));
        letsThrough("the second one all", Made::some, x -> x.rule(0, 0, 0, 2, 0));
        letsThrough("the third one all", Made::some, x -> x.rule(0, 0, 0, 0, 2));
        letsThrough("nothing with a growth of 0", Made::some, x -> x.rule(2, 0, 0, 0, 0));
        refused("the first one below 0", ARGUMENT, Made::some, x -> x.rule(0, 0, -1, 3, 0));
        refused("the second one below 0", ARGUMENT, Made::some, x -> x.rule(0, 0, 0, -1, 3));
        refused("the third one below 0", ARGUMENT, Made::some, x -> x.rule(0, 0, 3, 0, -1));
        refused("one less than growth", ARGUMENT, Made::some, x -> x.rule(0, 0, 1, 0, 0));
        refused("one more than growth", ARGUMENT, Made::some, x -> x.rule(0, 0, 1, 1, 1));
        refused("something with a growth of 0", ARGUMENT, Made::some, x -> x.rule(2, 0, 0, 1, 0));
        refused("growth only by a wrap-around", ARGUMENT, Made::some, x -> x.rule(0, 0, MOST, MOST, 4));
        refused("growth only by a wrap-around of those below 0", ARGUMENT, Made::some, x -> x.rule(0, 0, LEAST, LEAST, 2));
        refused("nothing with a growth of -1", ARGUMENT, Made::some, x -> x.rule(1, 0, 0, 0, 0));
        refused("-1 with a growth of -1", ARGUMENT, Made::some, x -> x.rule(1, 0, -1, 0, 0));
        refused("-1 of each with a growth of -1", ARGUMENT, Made::some, x -> x.rule(1, 2, 0, 0, -1));
        Check.sentence("3: " + FIRST_NAMED);
        firstNamed("no urn and a wrong rule", INDEX, Made::some, x -> x.rule(3, 0, -1, 0, 0));
        firstNamed("no colour and a wrong rule", INDEX, Made::some, x -> x.rule(0, 3, 9, 9, 9));
        firstNamed("no colour where there are no rules", INDEX, Made::some, x -> x.rule(1, -1, 0, 0, 0));
    }

    private static void pay() {
        Check.sentence("4: " + NO_COLOUR);
        urns("pay", (x, urn) -> x.pay(urn, 1, 5));
        colours("pay", (x, colour) -> x.pay(0, colour, -5));
        Check.sentence("4: Throws IllegalArgumentException if pay is not -5 to 5");
        limits("pay", ARGUMENT, Made::some, -5, 5, (x, n) -> x.pay(0, 2, n));
        Check.sentence("4: " + FIRST_NAMED);
        firstNamed("no urn and a wrong pay", INDEX, Made::some, x -> x.pay(3, 0, 6));
        firstNamed("no colour and a wrong pay", INDEX, Made::some, x -> x.pay(0, 3, -6));
    }

    private static void stop() {
        Check.sentence("5: " + NO_URN);
        urns("stop", (x, urn) -> x.stop(urn, 3, 1));
        Check.sentence("5: Throws IllegalArgumentException if kind is not 0 to 3, or number not 1 to 20");
        limits("kind with the least number", ARGUMENT, Made::some, 0, 3, (x, n) -> x.stop(0, n, 1));
        limits("kind with the greatest number", ARGUMENT, Made::some, 0, 3, (x, n) -> x.stop(0, n, 20));
        for (int kind = 0; kind <= 3; kind++) {
            int k = kind;
            limits("number of the kind " + k, ARGUMENT, Made::some, 1, 20, (x, n) -> x.stop(0, k, n));
        }
        Check.sentence("5: " + FIRST_NAMED);
        firstNamed("no urn and a wrong kind", INDEX, Made::some, x -> x.stop(3, 4, 1));
        firstNamed("no urn and a wrong number", INDEX, Made::some, x -> x.stop(-1, 1, 0));
    }

    private static Urnwright withFiveDraws() {
        Urnwright x = Made.paying(Made.counts(1, 1, 0), 1, 2, -3);
        for (int drawn = 0; drawn < 5; drawn++) {
            x.draw(0, drawn % 2);
        }
        return x;
    }

    private static Urnwright withSixDraws() {
        Urnwright x = withFiveDraws();
        x.draw(0, 1);
        return x;
    }

    private static Urnwright withoutTheFirst() {
        Urnwright x = Made.with(1, 1, 0, -1);
        x.draw(0, 0);
        return x;
    }

    private static void draw() {
        Check.sentence("6: " + NO_COLOUR);
        urns("draw", (x, urn) -> x.draw(urn, 1));
        limits("colour", INDEX, () -> Made.with(1, 1, 1, 0), 0, 2, (x, colour) -> x.draw(0, colour));
        Check.sentence("6: Throws IllegalStateException if its chance is 0, or the PATH of the URN has 6 DRAWS");
        refused("never there", STATE, () -> Made.with(1, 0, 0, 3), x -> x.draw(0, 1));
        letsThrough("the last one", () -> Made.with(1, 1, 1, -1), x -> x.draw(0, 2));
        refused("none left of it", STATE, LimitTest::withoutTheFirst, x -> x.draw(0, 0));
        letsThrough("taken back, and left again", LimitTest::withoutTheFirst, x -> x.back(0) + x.draw(0, 0));
        refused("nothing left", STATE, Made::drawnOut, x -> x.draw(0, 0));
        refused("nothing left of another", STATE, Made::drawnOut, x -> x.draw(0, 1));
        letsThrough("the sixth", LimitTest::withFiveDraws, x -> x.draw(0, 0));
        refused("the seventh", STATE, LimitTest::withSixDraws, x -> x.draw(0, 0));
        refused("the seventh of another", STATE, LimitTest::withSixDraws, x -> x.draw(0, 1));
        letsThrough("the sixth again", LimitTest::withSixDraws, x -> x.back(0) + x.draw(0, 0));
        refused("the seventh with many left", STATE, LimitTest::sixOfFifteen, x -> x.draw(0, 2));
        Check.sentence("6: " + FIRST_NAMED);
        firstNamed("no colour behind 6 draws", INDEX, LimitTest::withSixDraws, x -> x.draw(0, 3));
        firstNamed("no colour with nothing left", INDEX, Made::drawnOut, x -> x.draw(0, -1));
        firstNamed("no urn and no colour", INDEX, Made::full, x -> x.draw(4, 3));
    }

    private static Urnwright sixOfFifteen() {
        Urnwright x = Made.with(5, 5, 5, -1);
        for (int drawn = 0; drawn < 6; drawn++) {
            x.draw(0, drawn % 3);
        }
        return x;
    }

    private static void back() {
        Check.sentence("7: " + NO_URN);
        urns("back", (x, urn) -> x.back(urn));
    }

    private static void row() {
        Check.sentence("8: Throws IllegalArgumentException if one is not 0 to 9, or all are 0");
        limits("a", ARGUMENT, Made::some, 0, 9, (x, n) -> x.row(n, 1, 0, 0, 0));
        limits("b", ARGUMENT, Made::some, 0, 9, (x, n) -> x.row(0, n, 1, 0, 0));
        limits("c", ARGUMENT, Made::some, 0, 9, (x, n) -> x.row(0, 0, n, 1, 0));
        limits("d", ARGUMENT, Made::some, 0, 9, (x, n) -> x.row(0, 0, 0, n, 1));
        limits("e", ARGUMENT, Made::some, 0, 9, (x, n) -> x.row(1, 0, 0, 0, n));
        refused("all are 0", ARGUMENT, Made::some, x -> x.row(0, 0, 0, 0, 0));
        refused("all are 0 and none is told", ARGUMENT, Made::empty, x -> x.row(0, 0, 0, 0, 0));
        refused("0 together only with one below 0", ARGUMENT, Made::some, x -> x.row(1, 0, -1, 0, 0));
        refused("0 together only by a wrap-around", ARGUMENT, Made::some, x -> x.row(LEAST, 0, 0, 0, LEAST));
        letsThrough("only the first is above 0", Made::empty, x -> x.row(1, 0, 0, 0, 0));
        letsThrough("only the last is above 0", Made::empty, x -> x.row(0, 0, 0, 0, 1));
        letsThrough("all are 9", Made::empty, x -> x.row(9, 9, 9, 9, 9));
        Check.sentence("8: Throws IllegalStateException if there are 4");
        Check.same("the number of the fourth", 3, () -> Made.some().row(1, 1, 1, 1, 1));
        refused("the fifth", STATE, Made::full, x -> x.row(1, 1, 1, 1, 1));
        Check.sentence("8: " + FIRST_NAMED);
        firstNamed("a wrong weight in a fifth", ARGUMENT, Made::full, x -> x.row(1, 1, 10, 1, 1));
        firstNamed("a fifth with all 0", ARGUMENT, Made::full, x -> x.row(0, 0, 0, 0, 0));
    }

    /** PATHS and what looks like one. */
    private static final int[] NO_PATHS = {-1, 4, 9, 10, 14, 20, 40, 41, 101, 110, 114, 140, 411, 1011, 1101, 1110, 1114, 4111, 3334, 10000,
        11111, 33333, 11110, 111111, -11, -1111, LEAST, MOST};
    private static final int[] PATHS = {0, 1, 3, 11, 33, 111, 333, 1111, 3333, 1231};

    private static void paths(String what, Asked asked) {
        for (int path : PATHS) {
            letsThrough(what + " " + path, () -> Made.with(5, 5, 5, 0), x -> asked.on(x, path));
        }
        for (int path : NO_PATHS) {
            refused(what + " " + path, ARGUMENT, Made::some, x -> asked.on(x, path));
        }
        for (int hundred = -100; hundred < 35000; hundred += 100) {
            Urnwright x = Made.with(5, 5, 5, 0);
            for (int path = hundred; path < hundred + 100; path++) {
                int asking = path;
                boolean isPath = path == 0 || ("" + path).matches("[123]{1,4}");
                Object got = Check.answerOf(() -> asked.on(x, asking));
                Check.same(what + " path " + path, !isPath, () -> got.equals(Check.answerOf(ARGUMENT)));
            }
        }
    }

    private static void chance() {
        Check.sentence("9: " + NO_URN);
        urns("chance", (x, urn) -> x.chance(urn, 1111, false));
        Check.sentence("9: " + NO_PATH);
        paths("chance", (x, path) -> x.chance(0, path, true));
        Check.sentence("9: " + FIRST_NAMED);
        firstNamed("no urn and no path", INDEX, Made::some, x -> x.chance(3, 4, false));
        firstNamed("no urn at all and no path", INDEX, Made::empty, x -> x.chance(0, 11111, false));
    }

    private static Urnwright some(int draws) {
        Urnwright x = Made.with(3, 2, 0, -1);
        for (int drawn = 0; drawn < draws; drawn++) {
            x.draw(0, drawn % 2);
        }
        return x;
    }

    private static void game(String what, Game game) {
        String promise = what.substring(0, 2) + ": ";
        Asked steps = (x, n) -> game.on(x, 0, n);
        Check.sentence(promise + NO_URN);
        urns(what, (x, urn) -> game.on(x, urn, 0));
        Check.sentence(promise + NO_STEPS);
        limits(what + " that puts back", ARGUMENT, () -> Made.with(1, 0, 0, 0), 0, 4, steps);
        limits(what + " that grows", ARGUMENT, () -> Made.with(0, 1, 0, 3), 0, 4, steps);
        limits(what + " behind 6 draws", ARGUMENT, LimitTest::withSixDraws, 0, 4, steps);
        for (int draws = 0; draws <= 5; draws++) {
            int d = draws;
            limits(what + " with " + (5 - d) + " left", ARGUMENT, () -> some(d), 0, Math.min(4, 5 - d), steps);
        }
        letsThrough(what + " with one taken back", () -> some(3), x -> "" + x.back(0) + game.on(x, 0, 3));
        refused(what + " with one more drawn", ARGUMENT, () -> some(3), x -> game.on(x, 0, 3));
        Check.sentence(promise + FIRST_NAMED);
        firstNamed(what + " no urn and no steps", INDEX, Made::some, x -> game.on(x, 3, 5));
        firstNamed(what + " no urn at all and no steps", INDEX, Made::empty, x -> game.on(x, 0, -1));
    }

    private static void given() {
        Check.sentence("14: " + NO_COLOUR);
        colours("given", (x, colour) -> x.given(0, 2, colour, 1, false));
        Check.sentence("14: Throws IllegalArgumentException if steps are none of a GAME of it, or times is not 0 to steps");
        for (int steps = 0; steps <= 4; steps++) {
            int s = steps;
            limits("times of " + s + " steps", ARGUMENT, Made::some, 0, s, (x, n) -> x.given(0, s, 1, n, true));
        }
        Check.sentence("14: Throws IllegalStateException if the chance of that is 0");
        refused("never there, and once", STATE, () -> Made.with(1, 1, 0, 0), x -> x.given(0, 2, 2, 1, false));
        letsThrough("never there, and not once", () -> Made.with(1, 1, 0, 0), x -> x.given(0, 2, 2, 0, false));
        refused("not once, though nothing else is there", STATE, () -> Made.with(0, 0, 4, 0), x -> x.given(0, 4, 2, 3, true));
        letsThrough("each time", () -> Made.with(0, 0, 4, 0), x -> x.given(0, 4, 2, 4, true));
        refused("more often than it is there", STATE, () -> Made.with(2, 3, 0, -1), x -> x.given(0, 4, 0, 3, false));
        letsThrough("as often as it is there", () -> Made.with(2, 3, 0, -1), x -> x.given(0, 4, 0, 2, false));
        refused("fewer than must come", STATE, () -> Made.with(2, 3, 0, -1), x -> x.given(0, 4, 0, 0, false));
        letsThrough("as few as can be", () -> Made.with(2, 3, 0, -1), x -> x.given(0, 4, 0, 1, false));
        Check.sentence("14: " + FIRST_NAMED);
        firstNamed("no colour and no steps", INDEX, Made::some, x -> x.given(0, 5, 3, 0, false));
        firstNamed("no colour and no times", INDEX, Made::some, x -> x.given(0, 2, -1, 3, false));
        firstNamed("no urn and no times", INDEX, Made::some, x -> x.given(3, 2, 0, 3, false));
        firstNamed("no colour that has no chance", INDEX, () -> Made.with(1, 0, 0, 0), x -> x.given(0, 2, 3, 1, false));
        firstNamed("no times that have no chance", ARGUMENT, () -> Made.with(1, 0, 0, 0), x -> x.given(0, 2, 1, 3, false));
        firstNamed("no steps that have no chance", ARGUMENT, () -> Made.with(1, 0, 0, 0), x -> x.given(0, 5, 1, 1, false));
    }

    private static void strike() {
        Check.sentence("16: Throws IllegalArgumentException if steps are none of a GAME of it, or strike is not -9 to 9");
        limits("strike", ARGUMENT, Made::some, -9, 9, (x, n) -> x.worth(0, 4, n, false));
        limits("strike without steps", ARGUMENT, Made::some, -9, 9, (x, n) -> x.worth(0, 0, n, true));
        Check.sentence("16: " + FIRST_NAMED);
        firstNamed("no urn and no strike", INDEX, Made::some, x -> x.worth(3, 1, 10, false));
        Check.sentence("29: Throws IllegalArgumentException if steps are none of a GAME of it, or strike is not -9 to 9");
        limits("strike", ARGUMENT, Made::some, -9, 9, (x, n) -> x.stops(0, 4, n));
        limits("strike without steps", ARGUMENT, Made::some, -9, 9, (x, n) -> x.stops(0, 0, n));
        Check.sentence("29: " + FIRST_NAMED);
        firstNamed("no urn and no strike", INDEX, Made::some, x -> x.stops(-1, 1, -10));
    }

    private static void slack() {
        Check.sentence("17: Throws IllegalArgumentException if steps are none of a GAME of it, or limit is not 1 to 20");
        limits("limit", ARGUMENT, Made::some, 1, 20, (x, n) -> x.slack(0, 4, n, false));
        limits("limit without steps", ARGUMENT, Made::some, 1, 20, (x, n) -> x.slack(0, 0, n, true));
        Check.sentence("17: " + FIRST_NAMED);
        firstNamed("no urn and no limit", INDEX, Made::some, x -> x.slack(3, 1, 0, false));
    }

    private static void walk() {
        Check.sentence("18: Throws IllegalArgumentException if n is not 2 to 8, from not 0 to n, or up or down not 1 to 4");
        for (boolean isWait : new boolean[] {false, true}) {
            limits("n from 0", ARGUMENT, Made::some, 2, 8, (x, n) -> x.walk(0, n, 1, 2, isWait, false));
            limits("n from 2", ARGUMENT, Made::some, 2, 8, (x, n) -> x.walk(2, n, 1, 1, isWait, true));
            for (int end = 2; end <= 8; end++) {
                int n = end;
                limits("from, with n of " + n, ARGUMENT, Made::some, 0, n, (x, from) -> x.walk(from, n, 3, 2, isWait, false));
            }
            limits("up", ARGUMENT, Made::some, 1, 4, (x, up) -> x.walk(1, 8, up, 1, isWait, true));
            limits("down", ARGUMENT, Made::some, 1, 4, (x, down) -> x.walk(1, 8, 4, down, isWait, false));
        }
        refused("up and down alike, but 0", ARGUMENT, Made::empty, x -> x.walk(1, 2, 0, 0, true, false));
        refused("up and down alike, but 5", ARGUMENT, Made::empty, x -> x.walk(1, 2, 5, 5, true, false));
        refused("one contrary to the other", ARGUMENT, Made::empty, x -> x.walk(1, 2, 1, -1, true, false));
    }

    interface Pair {
        Object of(Urnwright x, int one, int other);
    }

    private static void pairs(String what, Pair pair) {
        refused(what + " without rows", INDEX, Made::empty, x -> pair.of(x, 0, 0));
        limits(what + " one of three rows", INDEX, Made::some, 0, 2, (x, n) -> pair.of(x, n, 1));
        limits(what + " other of three rows", INDEX, Made::some, 0, 2, (x, n) -> pair.of(x, 1, n));
        limits(what + " one of four rows", INDEX, Made::full, 0, 3, (x, n) -> pair.of(x, n, 3));
        limits(what + " other of four rows", INDEX, Made::full, 0, 3, (x, n) -> pair.of(x, 3, n));
        refused(what + " neither is there", INDEX, Made::some, x -> pair.of(x, 3, -1));
    }

    private static void pairsOfRows() {
        Check.sentence("19: Throws IndexOutOfBoundsException if there is no such ROW, of both");
        pairs("distance", (x, one, other) -> x.distance(one, other, false));
        pairs("distance below", (x, one, other) -> x.distance(one, other, true));
        Check.sentence("21: Throws IndexOutOfBoundsException if there is no such ROW, of both");
        pairs("isAbove", (x, one, other) -> x.isAbove(one, other));
    }

    private static void table() {
        Check.sentence("20: Throws IndexOutOfBoundsException if there is no such ROW, or place, of both");
        for (boolean isStaying : new boolean[] {false, true}) {
            pairs("table", (x, one, other) -> x.table(one, other, 4, 4, isStaying));
            limits("place", INDEX, Made::some, 0, 4, (x, n) -> x.table(0, 2, n, 0, isStaying));
            limits("its", INDEX, Made::some, 0, 4, (x, n) -> x.table(2, 1, 4, n, isStaying));
            refused("no row and no place", INDEX, Made::some, x -> x.table(3, 0, 0, 5, isStaying));
        }
    }

    private static void far() {
        Check.sentence("22: Throws IllegalArgumentException if cards is not 1 to 5, or times not 0 to 7");
        limits("cards not shuffled", ARGUMENT, Made::some, 1, 5, (x, n) -> x.far(n, 0, false));
        limits("cards shuffled", ARGUMENT, Made::some, 1, 5, (x, n) -> x.far(n, 7, true));
        limits("times of one card", ARGUMENT, Made::some, 0, 7, (x, n) -> x.far(1, n, false));
        limits("times of five", ARGUMENT, Made::some, 0, 7, (x, n) -> x.far(5, n, true));
    }

    private static void ofUrn() {
        Check.sentence("23: " + NO_URN);
        urns("ofUrn", (x, urn) -> x.ofUrn(urn, 9));
        Check.sentence("23: Throws IllegalArgumentException if what is not 0 to 9");
        limits("what", ARGUMENT, Made::some, 0, 9, (x, n) -> x.ofUrn(2, n));
        Check.sentence("23: " + FIRST_NAMED);
        firstNamed("no urn and no such question", INDEX, Made::some, x -> x.ofUrn(3, 10));
    }

    private static void askedOfAnUrn() {
        Check.sentence("24: " + NO_URN);
        urns("text", (x, urn) -> x.text(urn));
        Check.sentence("25: " + NO_URN);
        urns("tilt", (x, urn) -> x.tilt(urn));
        Check.sentence("26: " + NO_COLOUR);
        urns("percent", (x, urn) -> x.percent(urn, 1));
        colours("percent", (x, colour) -> x.percent(0, colour));
        limits("percent colour with nothing left", INDEX, Made::drawnOut, 0, 2, (x, colour) -> x.percent(0, colour));
    }

    private static void many() {
        Check.sentence("27: Throws IllegalArgumentException if what is not 0 to 6");
        limits("what", ARGUMENT, Made::some, 0, 6, (x, n) -> x.many(n));
        limits("what with nothing told", ARGUMENT, Made::empty, 0, 6, (x, n) -> x.many(n));
    }

    private static void wouldGain() {
        Check.sentence("28: " + NO_URN);
        urns("wouldGain", (x, urn) -> x.wouldGain(urn, 2));
        Check.sentence("28: " + NO_PATH);
        paths("wouldGain", (x, path) -> x.wouldGain(0, path));
        Check.sentence("28: Throws IllegalStateException if its chance is 0");
        refused("never there", STATE, () -> Made.with(1, 0, 0, 0), x -> x.wouldGain(0, 2));
        refused("never there, the last one", STATE, () -> Made.with(1, 1, 0, 0), x -> x.wouldGain(0, 1213));
        letsThrough("the last of it", () -> Made.with(2, 2, 0, -1), x -> x.wouldGain(0, 2121));
        refused("none left of it", STATE, () -> Made.with(2, 2, 0, -1), x -> x.wouldGain(0, 2122));
        letsThrough("as many as there are", () -> Made.with(1, 1, 1, -1), x -> x.wouldGain(0, 123));
        refused("more than there are", STATE, () -> Made.with(1, 1, 1, -1), x -> x.wouldGain(0, 1231));
        refused("nothing left", STATE, Made::drawnOut, x -> x.wouldGain(0, 1));
        letsThrough("nothing left and no draws", Made::drawnOut, x -> x.wouldGain(0, 0));
        Check.sentence("28: " + FIRST_NAMED);
        firstNamed("no urn and no path", INDEX, Made::some, x -> x.wouldGain(3, 4));
        firstNamed("no urn and no chance", INDEX, Made::empty, x -> x.wouldGain(0, 1));
        firstNamed("no path and no chance", ARGUMENT, () -> Made.with(1, 0, 0, 0), x -> x.wouldGain(0, 24));
        firstNamed("a path of 5 and no chance", ARGUMENT, Made::drawnOut, x -> x.wouldGain(0, 22222));
    }

    private static void digest() {
        Check.sentence("30: long digest()");
        letsThrough("nothing told", Made::empty, x -> x.digest());
        letsThrough("all told", Made::full, x -> x.digest());
        letsThrough("nothing left", Made::drawnOut, x -> x.digest());
        Urnwright x = Made.full();
        long first = x.digest();
        Check.same("digest() itself changes nothing", first, x::digest);
        Check.same("nor anything else", Picture.of(Made.full()), () -> Picture.of(x));
    }
}
