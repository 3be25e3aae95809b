/** Promise by promise: ordinary inputs, the edges that the document names, and wrong inputs. */
public final class PromiseTest {
    private static final Class<IndexOutOfBoundsException> INDEX = IndexOutOfBoundsException.class;
    private static final Class<IllegalArgumentException> ARGUMENT = IllegalArgumentException.class;
    private static final Class<IllegalStateException> STATE = IllegalStateException.class;
    private static final int MOST = Integer.MAX_VALUE;
    private static final int LEAST = Integer.MIN_VALUE;

    private PromiseTest() {
    }

    public static void main(String[] args) {
        newObject();
        urn();
        rule();
        pay();
        stop();
        draw();
        back();
        row();
        chance();
        gains();
        mean();
        unfair();
        ordered();
        given();
        stopped();
        worth();
        slack();
        walk();
        distance();
        table();
        isAbove();
        far();
        ofUrn();
        text();
        tilt();
        percent();
        many();
        wouldGain();
        stops();
        digest();
        order();
        Check.end();
    }

    private static void fraction(String what, long above, long below, Check.Call asksAbove, Check.Call asksBelow) {
        Check.same(what + " above", above, asksAbove);
        Check.same(what + " below", below, asksBelow);
    }

    private static void newObject() {
        Urnwright x = new Urnwright();
        for (int what = 0; what <= 6; what++) {
            int asked = what;
            Check.same("1 many " + what, 0, () -> x.many(asked));
        }
        Check.throwing("1 no urn", INDEX, () -> x.text(0));
        Check.throwing("1 no row", INDEX, () -> x.distance(0, 0, false));
    }

    private static void urn() {
        Urnwright x = new Urnwright();
        int[][] wrong = {{6, 0, 0, 0}, {0, 6, 0, 0}, {0, 0, 6, 0}, {-1, 1, 1, 0}, {1, -1, 1, 0}, {1, 1, -1, 0}, {0, 0, 0, 1},
                {1, 1, 1, -2}, {1, 1, 1, 4}, {MOST, 1, 1, 1}, {LEAST, LEAST, 1, 1}};
        for (int[] w : wrong) {
            Check.throwing("2 wrong", ARGUMENT, () -> x.urn(w[0], w[1], w[2], w[3]));
        }
        Check.same("2 nothing was told", 0, () -> x.many(0));
        Check.same("2 first", 0, () -> x.urn(5, 5, 5, 3));
        Check.same("2 second", 1, () -> x.urn(0, 0, 1, -1));
        Check.same("2 third", 2, () -> x.urn(0, 1, 0, 0));
        Check.same("2 fourth", 3, () -> x.urn(1, 0, 0, 1));
        Check.throwing("2 no fifth", STATE, () -> x.urn(1, 0, 0, 1));
        Check.throwing("2 a wrong fifth", ARGUMENT, () -> x.urn(1, 0, 0, 9));
        Check.same("2 counts", "5-5-5|0", () -> x.text(0));
        Check.same("2 adds growth of the colour itself", 8, () -> x.draw(0, 1) + x.ofUrn(0, 1));
        Check.same("2 leaves out", "0-0-0|0", () -> x.draw(1, 2) == 0 ? x.text(1) : "");
    }

    private static void rule() {
        Urnwright x = Made.with(1, 1, 1, 3);
        x.urn(1, 1, 1, -1);
        x.urn(1, 1, 1, 0);
        Check.same("3 at first", 3, () -> x.rule(0, 0, 0, 1, 2));
        Check.same("3 own colour before", 0, () -> x.rule(0, 0, 1, 1, 1));
        Check.same("3 of another colour", 3, () -> x.rule(0, 1, 3, 0, 0));
        Check.same("3 and again", 0, () -> x.rule(0, 1, 0, 2, 1));
        Check.same("3 the third", 3, () -> x.rule(0, 2, 2, 1, 0));
        Check.same("3 the third again", 0, () -> x.rule(0, 2, 0, 0, 3));
        Check.same("3 growth of 0", 0, () -> x.rule(2, 0, 0, 0, 0));
        Check.throwing("3 no rules with -1", ARGUMENT, () -> x.rule(1, 0, 0, 0, 0));
        Check.throwing("3 nor below 0", ARGUMENT, () -> x.rule(1, 0, -1, 0, 0));
        Check.throwing("3 below 0", ARGUMENT, () -> x.rule(0, 0, 4, -1, 0));
        Check.throwing("3 not growth together", ARGUMENT, () -> x.rule(0, 0, 1, 1, 0));
        Check.throwing("3 growth only by a wrap", ARGUMENT, () -> x.rule(2, 0, MOST, MOST, 2));
        Check.throwing("3 no urn", INDEX, () -> x.rule(3, 0, 1, 1, 1));
        Check.throwing("3 no urn below", INDEX, () -> x.rule(-1, 0, 1, 1, 1));
        Check.throwing("3 no colour", INDEX, () -> x.rule(0, 3, 9, 9, 9));
        Check.throwing("3 no colour below", INDEX, () -> x.rule(0, -1, 1, 1, 1));
        x.draw(0, 0);
        Check.same("3 what it adds", "2-2-2|0", () -> x.text(0));
        x.draw(0, 1);
        Check.same("3 what the second adds", "2-4-3|0", () -> x.text(0));
        x.draw(0, 2);
        Check.same("3 what the third adds", "2-4-6|0", () -> x.text(0));
    }

    private static void pay() {
        Urnwright x = Made.with(1, 1, 1, 1);
        Check.same("4 at first", 0, () -> x.pay(0, 2, -5));
        Check.same("4 before", -5, () -> x.pay(0, 2, 5));
        Check.same("4 of another", 0, () -> x.pay(0, 0, 1));
        Check.same("4 kept", 5, () -> x.ofUrn(0, 9));
        Check.throwing("4 too much", ARGUMENT, () -> x.pay(0, 0, 6));
        Check.throwing("4 too little", ARGUMENT, () -> x.pay(0, 0, -6));
        Check.throwing("4 no urn", INDEX, () -> x.pay(1, 0, 6));
        Check.throwing("4 no colour", INDEX, () -> x.pay(0, 3, 6));
        Check.same("4 unchanged", 1, () -> x.ofUrn(0, 7));
    }

    private static void stop() {
        Urnwright x = Made.with(1, 1, 1, 1);
        Check.same("5 at first", 0, () -> x.stop(0, 3, 20));
        Check.same("5 before", 3, () -> x.stop(0, 1, 1));
        Check.same("5 back to 0", 1, () -> x.stop(0, 0, 1));
        Check.throwing("5 kind", ARGUMENT, () -> x.stop(0, 4, 1));
        Check.throwing("5 kind below", ARGUMENT, () -> x.stop(0, -1, 1));
        Check.throwing("5 number", ARGUMENT, () -> x.stop(0, 1, 21));
        Check.throwing("5 number below", ARGUMENT, () -> x.stop(0, 1, 0));
        Check.throwing("5 number of the kind 0", ARGUMENT, () -> x.stop(0, 0, 0));
        Check.throwing("5 no urn", INDEX, () -> x.stop(1, 4, 0));
        Check.same("5 unchanged", 0, () -> x.ofUrn(0, 6));
    }

    private static void draw() {
        Urnwright x = Made.paying(Made.counts(1, 0, 2), -1, 3, 4, -5);
        Check.same("6 gain", -5, () -> x.draw(0, 2));
        Check.same("6 gain of all", -2, () -> x.draw(0, 0));
        Check.throwing("6 none left", STATE, () -> x.draw(0, 0));
        Check.throwing("6 never there", STATE, () -> x.draw(0, 1));
        Check.same("6 path", 31, () -> x.ofUrn(0, 5));
        Check.same("6 the last one", -7, () -> x.draw(0, 2));
        Check.throwing("6 empty", STATE, () -> x.draw(0, 2));
        Check.throwing("6 no urn", INDEX, () -> x.draw(1, 0));
        Check.throwing("6 no colour", INDEX, () -> x.draw(0, 3));
        Check.throwing("6 no colour below", INDEX, () -> x.draw(0, -1));
        Urnwright long6 = Made.with(0, 1, 0, 0);
        for (int i = 0; i < 6; i++) {
            Check.same("6 of six", 0, () -> long6.draw(0, 1));
        }
        Check.throwing("6 no seventh", STATE, () -> long6.draw(0, 1));
        Check.same("6 six", 222222, () -> long6.ofUrn(0, 5));
        Check.same("6 games go on", 1L, () -> long6.chance(0, 2222, false));
        long6.back(0);
        Check.same("6 again after back", 0, () -> long6.draw(0, 1));
    }

    private static void back() {
        Urnwright x = Made.paying(Made.counts(1, 1, 0), 2, 3, -1);
        x.draw(0, 0);
        x.draw(0, 1);
        x.rule(0, 1, 0, 0, 2);
        x.pay(0, 1, 5);
        Check.same("7 colour", 1, () -> x.back(0));
        Check.same("7 counts ahead of it, pay as it is now", "3-1-0|-3", () -> x.text(0));
        Check.same("7 path", 1, () -> x.ofUrn(0, 5));
        Check.same("7 the first", 0, () -> x.back(0));
        Check.same("7 all taken back", "1-1-0|-6", () -> x.text(0));
        Check.same("7 no knock yet", 0, () -> x.many(5));
        Check.same("7 knock", -1, () -> x.back(0));
        Check.same("7 counted", 1, () -> x.many(5));
        Check.same("7 a knock changes nothing else", "1-1-0|-6", () -> x.text(0));
        Check.throwing("7 no urn", INDEX, () -> x.back(1));
        Check.same("7 that is no knock", 1, () -> x.many(5));
    }

    private static void row() {
        Urnwright x = new Urnwright();
        int[][] wrong = {{10, 0, 0, 0, 0}, {0, 10, 0, 0, 0}, {0, 0, 10, 0, 0}, {0, 0, 0, 10, 0}, {0, 0, 0, 0, 10}, {-1, 1, 1, 1, 1},
                {1, 1, 1, 1, -1}, {0, 0, 0, 0, 0}};
        for (int[] w : wrong) {
            Check.throwing("8 wrong", ARGUMENT, () -> x.row(w[0], w[1], w[2], w[3], w[4]));
        }
        Check.same("8 first", 0, () -> x.row(9, 9, 9, 9, 9));
        Check.same("8 second", 1, () -> x.row(0, 0, 0, 0, 1));
        Check.same("8 third", 2, () -> x.row(1, 0, 0, 0, 0));
        Check.same("8 fourth", 3, () -> x.row(0, 1, 0, 0, 0));
        Check.throwing("8 no fifth", STATE, () -> x.row(0, 1, 0, 0, 0));
        Check.throwing("8 a wrong fifth", ARGUMENT, () -> x.row(0, 0, 0, 0, 0));
        Check.same("8 told", 4, () -> x.many(1));
        Urnwright y = new Urnwright();
        Check.same("8 two alike", 0, () -> y.row(1, 1, 0, 0, 0));
        Check.same("8 two others alike", 1, () -> y.row(1, 0, 1, 0, 0));
        Check.same("8 two more", 2, () -> y.row(1, 0, 0, 1, 0));
        Check.same("8 the first and the last", 3, () -> y.row(1, 0, 0, 0, 1));
    }

    private static void chance() {
        Urnwright x = Made.with(2, 3, 0, -1);
        fraction("9 without putting back", 3, 10, () -> x.chance(0, 12, false), () -> x.chance(0, 12, true));
        fraction("9 the empty one", 1, 1, () -> x.chance(0, 0, false), () -> x.chance(0, 0, true));
        fraction("9 no such colour", 0, 1, () -> x.chance(0, 3, false), () -> x.chance(0, 3, true));
        fraction("9 too many of it", 0, 1, () -> x.chance(0, 1112, false), () -> x.chance(0, 1112, true));
        x.draw(0, 1);
        x.draw(0, 1);
        fraction("9 more than there are", 0, 1, () -> x.chance(0, 2111, false), () -> x.chance(0, 2111, true));
        int[] wrong = {4, 10, 101, 5, 11111, -1, -11, 1014, MOST, LEAST};
        for (int path : wrong) {
            Check.throwing("9 no path " + path, ARGUMENT, () -> x.chance(0, path, false));
        }
        Check.throwing("9 no urn", INDEX, () -> x.chance(1, 4, false));
        Check.same("9 nothing is drawn", 22, () -> x.ofUrn(0, 5));
        Urnwright ruled = Made.with(1, 1, 1, 1);
        ruled.rule(0, 0, 0, 1, 0);
        fraction("9 by rules", 1, 6, () -> ruled.chance(0, 12, false), () -> ruled.chance(0, 12, true));
        Urnwright most = Made.with(5, 5, 5, 3);
        fraction("9 four", 5L * 8 * 11 * 14 / 560, 15L * 18 * 21 * 24 / 560, () -> most.chance(0, 1111, false),
                () -> most.chance(0, 1111, true));
    }

    private static void gains() {
        Urnwright x = Made.paying(Made.counts(1, 1, 0), 0, 1, -1);
        fraction("10 none", 3, 8, () -> x.gains(0, 4, 0, false), () -> x.gains(0, 4, 0, true));
        fraction("10 all", 1, 16, () -> x.gains(0, 4, -4, false), () -> x.gains(0, 4, -4, true));
        fraction("10 odd", 0, 1, () -> x.gains(0, 4, 1, false), () -> x.gains(0, 4, 1, true));
        fraction("10 far off", 0, 1, () -> x.gains(0, 4, LEAST, false), () -> x.gains(0, 4, MOST, true));
        fraction("10 no steps", 1, 1, () -> x.gains(0, 0, 0, false), () -> x.gains(0, 0, 0, true));
        x.draw(0, 0);
        Check.same("10 gain does not matter", 1L, () -> x.gains(0, 0, 0, false));
        noSteps("10", steps -> x.gains(0, steps, 0, false), steps -> x.gains(1, steps, 0, false));
    }

    interface Steps {
        Object asked(int steps);
    }

    /** Steps that are none of any GAME, and an URN that is not there. */
    private static void noSteps(String promise, Steps first, Steps missing) {
        for (int steps : new int[] {-1, 5, MOST, LEAST}) {
            Check.throwing(promise + " steps " + steps, ARGUMENT, () -> first.asked(steps));
            Check.throwing(promise + " no urn", INDEX, () -> missing.asked(steps));
        }
        Check.throwing(promise + " no urn", INDEX, () -> missing.asked(1));
    }

    private static void mean() {
        Urnwright x = Made.paying(Made.counts(1, 3, 0), -1, 5, -2);
        fraction("11 mean", -1, 4, () -> x.mean(0, 1, false, false), () -> x.mean(0, 1, false, true));
        fraction("11 spread", 147, 16, () -> x.mean(0, 1, true, false), () -> x.mean(0, 1, true, true));
        fraction("11 all drawn", -1, 1, () -> x.mean(0, 4, false, false), () -> x.mean(0, 4, false, true));
        fraction("11 no spread then", 0, 1, () -> x.mean(0, 4, true, false), () -> x.mean(0, 4, true, true));
        fraction("11 no steps", 0, 1, () -> x.mean(0, 0, false, false), () -> x.mean(0, 0, true, true));
        noSteps("11", steps -> x.mean(0, steps, true, false), steps -> x.mean(1, steps, true, false));
        x.draw(0, 1);
        fraction("11 of what is left", 1, 1, () -> x.mean(0, 3, false, false), () -> x.mean(0, 3, false, true));
        Check.throwing("11 more than are left", ARGUMENT, () -> x.mean(0, 4, false, false));
    }

    private static void unfair() {
        Urnwright x = Made.paying(Made.counts(1, 1, 0), 1, 1, -1, 5);
        Check.same("12 fair with one step", -1, () -> x.unfair(0, 1));
        Check.same("12 the smallest of those with one draw", 1, () -> x.unfair(0, 2));
        Check.same("12 no steps", -1, () -> x.unfair(0, 0));
        x.rule(0, 0, 0, 0, 1);
        x.rule(0, 1, 0, 0, 1);
        x.pay(0, 2, 0);
        Check.same("12 fair", -1, () -> x.unfair(0, 4));
        x.rule(0, 2, 1, 0, 0);
        Check.same("12 later", 13, () -> x.unfair(0, 3));
        x.pay(0, 0, 2);
        Check.same("12 at once", 0, () -> x.unfair(0, 1));
        noSteps("12", steps -> x.unfair(0, steps), steps -> x.unfair(1, steps));
        Urnwright none = Made.paying(Made.counts(0, 2, 0), -1, 4, 0, 4);
        Check.same("12 only nodes with a chance", -1, () -> none.unfair(0, 2));
        Check.throwing("12 more than there are", ARGUMENT, () -> none.unfair(0, 3));
    }

    private static void ordered() {
        Urnwright x = Made.with(1, 1, 1, 2);
        Check.same("13 no order", -1, () -> x.ordered(0, 4));
        x.rule(0, 1, 0, 0, 2);
        Check.same("13 with two steps", 23, () -> x.ordered(0, 2));
        Check.same("13 with four", 1123, () -> x.ordered(0, 4));
        Check.same("13 with one", -1, () -> x.ordered(0, 1));
        Check.same("13 with none", -1, () -> x.ordered(0, 0));
        noSteps("13", steps -> x.ordered(0, steps), steps -> x.ordered(1, steps));
        Urnwright none = Made.with(1, 0, 0, 1);
        none.rule(0, 0, 0, 1, 0);
        Check.same("13 the other one has no chance", 12, () -> none.ordered(0, 2));
        Check.throwing("13 more than there are", ARGUMENT, () -> Made.with(1, 1, 0, -1).ordered(0, 3));
    }

    private static void given() {
        Urnwright x = Made.paying(Made.counts(1, 1, 2), 0, 4, 1, -3);
        fraction("14 one of the first", 4 * 3 - 5, 3, () -> x.given(0, 2, 0, 1, false), () -> x.given(0, 2, 0, 1, true));
        fraction("14 none of the third", 5, 1, () -> x.given(0, 2, 2, 0, false), () -> x.given(0, 2, 2, 0, true));
        fraction("14 no steps", 0, 1, () -> x.given(0, 0, 1, 0, false), () -> x.given(0, 0, 1, 0, true));
        Check.throwing("14 times", ARGUMENT, () -> x.given(0, 2, 0, 3, false));
        Check.throwing("14 times below", ARGUMENT, () -> x.given(0, 2, 0, -1, false));
        Check.throwing("14 no colour", INDEX, () -> x.given(0, 9, 3, 9, false));
        Check.throwing("14 no colour below", INDEX, () -> x.given(0, 2, -1, 1, false));
        noSteps("14", steps -> x.given(0, steps, 0, 9, false), steps -> x.given(1, steps, 0, 0, false));
        Urnwright one = Made.with(1, 0, 3, -1);
        Check.throwing("14 no chance of none", STATE, () -> one.given(0, 4, 0, 0, false));
        Check.throwing("14 no chance of two", STATE, () -> one.given(0, 4, 0, 2, false));
        Check.throwing("14 the argument goes first", ARGUMENT, () -> one.given(0, 4, 0, 5, false));
    }

    private static void stopped() {
        Urnwright x = Made.paying(Made.counts(1, 1, 0), 0, 1, -1);
        fraction("15 kind 0 at the end", 4, 1, () -> x.stopped(0, 4, true, false), () -> x.stopped(0, 4, true, true));
        x.stop(0, 1, 1);
        fraction("15 kind 1 time", 2, 1, () -> x.stopped(0, 3, true, false), () -> x.stopped(0, 3, true, true));
        fraction("15 kind 1 yield", 0, 1, () -> x.stopped(0, 3, false, false), () -> x.stopped(0, 3, false, true));
        x.pay(0, 1, -2);
        x.stop(0, 2, 2);
        fraction("15 kind 2 yield", -1, 1, () -> x.stopped(0, 3, false, false), () -> x.stopped(0, 3, false, true));
        fraction("15 kind 2 time", 2, 1, () -> x.stopped(0, 3, true, false), () -> x.stopped(0, 3, true, true));
        x.stop(0, 3, 2);
        fraction("15 kind 3 time", 5, 2, () -> x.stopped(0, 4, true, false), () -> x.stopped(0, 4, true, true));
        Urnwright third = Made.with(0, 0, 1, 0);
        third.stop(0, 3, 3);
        fraction("15 kind 3 of the third", 3, 1, () -> third.stopped(0, 4, true, false), () -> third.stopped(0, 4, true, true));
        x.draw(0, 0);
        x.draw(0, 0);
        fraction("15 only in the game", 5, 2, () -> x.stopped(0, 4, true, false), () -> x.stopped(0, 4, true, true));
        fraction("15 no steps", 0, 1, () -> x.stopped(0, 0, true, false), () -> x.stopped(0, 0, false, true));
        noSteps("15", steps -> x.stopped(0, steps, true, false), steps -> x.stopped(1, steps, true, false));
    }

    private static void worth() {
        Urnwright x = Made.paying(Made.counts(1, 1, 0), 0, 2, -1);
        fraction("16 one step", 1, 1, () -> x.worth(0, 1, 0, false), () -> x.worth(0, 1, 0, true));
        fraction("16 a strike", 1, 2, () -> x.worth(0, 1, 1, false), () -> x.worth(0, 1, 1, true));
        fraction("16 two steps", 3, 2, () -> x.worth(0, 2, 0, false), () -> x.worth(0, 2, 0, true));
        fraction("16 never below 0", 0, 1, () -> x.worth(0, 4, 9, false), () -> x.worth(0, 4, 9, true));
        fraction("16 a strike below 0", 9, 1, () -> x.worth(0, 0, -9, false), () -> x.worth(0, 0, -9, true));
        x.pay(0, 0, 0);
        fraction("16 stop at once", 3, 1, () -> x.worth(0, 4, -3, false), () -> x.worth(0, 4, -3, true));
        Check.throwing("16 strike", ARGUMENT, () -> x.worth(0, 1, 10, false));
        Check.throwing("16 strike below", ARGUMENT, () -> x.worth(0, 1, -10, false));
        noSteps("16", steps -> x.worth(0, steps, 0, false), steps -> x.worth(1, steps, 99, false));
    }

    private static void slack() {
        Urnwright x = Made.paying(Made.counts(1, 3, 0), 0, 2, 0);
        fraction("17 no slack", 0, 1, () -> x.slack(0, 1, 2, false), () -> x.slack(0, 1, 2, true));
        fraction("17 one if that is less", 3, 4, () -> x.slack(0, 1, 1, false), () -> x.slack(0, 1, 1, true));
        fraction("17 nothing is that far", 1, 400, () -> x.slack(0, 1, 20, false), () -> x.slack(0, 1, 20, true));
        x.pay(0, 0, -2);
        fraction("17 without its sign", 0, 1, () -> x.slack(0, 1, 2, false), () -> x.slack(0, 1, 2, true));
        fraction("17 some", 9, 32, () -> Made.paying(Made.counts(1, 1, 0), 0, 5).slack(0, 1, 4, false), () -> Made.paying(Made.counts(1, 1, 0), 0, 5).slack(0, 1, 4, true));
        fraction("17 no steps", 0, 1, () -> x.slack(0, 0, 1, false), () -> x.slack(0, 0, 1, true));
        Check.throwing("17 limit", ARGUMENT, () -> x.slack(0, 1, 21, false));
        Check.throwing("17 limit below", ARGUMENT, () -> x.slack(0, 1, 0, false));
        noSteps("17", steps -> x.slack(0, steps, 1, false), steps -> x.slack(1, steps, 0, false));
    }

    private static void walk() {
        Urnwright x = new Urnwright();
        fraction("18 even", 3, 8, () -> x.walk(3, 8, 2, 2, false, false), () -> x.walk(3, 8, 2, 2, false, true));
        fraction("18 even wait", 15, 1, () -> x.walk(3, 8, 4, 4, true, false), () -> x.walk(3, 8, 4, 4, true, true));
        fraction("18 up", 4, 5, () -> x.walk(1, 2, 4, 1, false, false), () -> x.walk(1, 2, 4, 1, false, true));
        fraction("18 one step", 1, 1, () -> x.walk(1, 2, 4, 1, true, false), () -> x.walk(1, 2, 4, 1, true, true));
        fraction("18 down", 1, 7, () -> x.walk(1, 3, 1, 2, false, false), () -> x.walk(1, 3, 1, 2, false, true));
        fraction("18 down wait", 12, 7, () -> x.walk(1, 3, 1, 2, true, false), () -> x.walk(1, 3, 1, 2, true, true));
        fraction("18 at 0", 0, 1, () -> x.walk(0, 5, 3, 1, false, false), () -> x.walk(0, 5, 3, 1, false, true));
        fraction("18 at n", 1, 1, () -> x.walk(5, 5, 3, 1, false, false), () -> x.walk(5, 5, 3, 1, false, true));
        fraction("18 at n no wait", 0, 1, () -> x.walk(5, 5, 3, 1, true, false), () -> x.walk(5, 5, 3, 1, true, true));
        int[][] wrong = {{0, 1, 1, 1}, {0, 9, 1, 1}, {-1, 4, 1, 1}, {5, 4, 1, 1}, {1, 4, 0, 1}, {1, 4, 5, 1}, {1, 4, 1, 0}, {1, 4, 1, 5},
                {LEAST, LEAST, 1, 1}, {1, MOST, 1, 1}};
        for (int[] w : wrong) {
            Check.throwing("18 wrong", ARGUMENT, () -> x.walk(w[0], w[1], w[2], w[3], false, false));
        }
    }

    private static void distance() {
        Urnwright x = new Urnwright();
        x.row(1, 1, 0, 0, 0);
        x.row(0, 1, 1, 1, 0);
        x.row(0, 0, 0, 0, 9);
        x.row(3, 3, 0, 0, 0);
        fraction("19 some", 2, 3, () -> x.distance(0, 1, false), () -> x.distance(0, 1, true));
        fraction("19 all", 1, 1, () -> x.distance(2, 0, false), () -> x.distance(2, 0, true));
        fraction("19 none", 0, 1, () -> x.distance(3, 0, false), () -> x.distance(3, 0, true));
        noRows("19", (one, other) -> x.distance(one, other, false));
    }

    interface Pair {
        Object asked(int one, int other);
    }

    private static void noRows(String promise, Pair pair) {
        for (int row : new int[] {-1, 4, MOST, LEAST}) {
            Check.throwing(promise + " no first row", INDEX, () -> pair.asked(row, 0));
            Check.throwing(promise + " no other row", INDEX, () -> pair.asked(0, row));
        }
    }

    private static void table() {
        Urnwright x = new Urnwright();
        x.row(1, 1, 0, 0, 0);
        x.row(0, 1, 1, 1, 0);
        x.row(0, 0, 0, 0, 9);
        x.row(3, 3, 0, 0, 0);
        int[][] steps = {{0, 2, 1, 0, 0}, {0, 0, 1, 2, 0}, {0, 0, 0, 0, 0}, {0, 0, 0, 0, 0}, {0, 0, 0, 0, 0}};
        int[][] stays = {{0, 0, 2, 1, 0}, {0, 2, 0, 1, 0}, {0, 0, 0, 0, 0}, {0, 0, 0, 0, 0}, {0, 0, 0, 0, 0}};
        for (int place = 0; place < 5; place++) {
            for (int its = 0; its < 5; its++) {
                int i = place;
                int j = its;
                Check.same("20 by steps " + i + " " + j, steps[i][j], () -> x.table(0, 1, i, j, false));
                Check.same("20 staying " + i + " " + j, stays[i][j], () -> x.table(0, 1, i, j, true));
            }
        }
        Check.same("20 all in one", 18, () -> x.table(0, 2, 0, 4, false) + x.table(0, 2, 1, 4, true));
        Check.same("20 both run out at once", 6, () -> x.table(0, 3, 0, 0, false));
        Check.same("20 and on", 6, () -> x.table(0, 3, 1, 1, false));
        noRows("20", (one, other) -> x.table(one, other, 0, 0, true));
        for (int place : new int[] {-1, 5, MOST, LEAST}) {
            Check.throwing("20 no place", INDEX, () -> x.table(0, 1, place, 0, false));
            Check.throwing("20 no place of the other", INDEX, () -> x.table(0, 1, 0, place, true));
        }
    }

    private static void isAbove() {
        Urnwright x = new Urnwright();
        x.row(1, 1, 0, 0, 0);
        x.row(0, 1, 1, 1, 0);
        x.row(4, 0, 0, 0, 1);
        x.row(3, 3, 0, 0, 0);
        Check.same("21 above", true, () -> x.isAbove(1, 0));
        Check.same("21 below", false, () -> x.isAbove(0, 1));
        Check.same("21 the same", true, () -> x.isAbove(3, 0));
        Check.same("21 neither", false, () -> x.isAbove(2, 0));
        Check.same("21 nor the other way", false, () -> x.isAbove(0, 2));
        noRows("21", x::isAbove);
    }

    private static void far() {
        Urnwright x = new Urnwright();
        fraction("22 not shuffled", 119, 120, () -> x.far(5, 0, false), () -> x.far(5, 0, true));
        fraction("22 once", 1, 2, () -> x.far(3, 1, false), () -> x.far(3, 1, true));
        fraction("22 one card", 0, 1, () -> x.far(1, 0, false), () -> x.far(1, 0, true));
        fraction("22 two cards", 0, 1, () -> x.far(2, 7, false), () -> x.far(2, 7, true));
        fraction("22 most", 773, 6250, () -> x.far(5, 7, false), () -> x.far(5, 7, true));
        for (int wrong : new int[] {0, 6, -1, MOST, LEAST}) {
            Check.throwing("22 cards", ARGUMENT, () -> x.far(wrong, 0, false));
        }
        for (int wrong : new int[] {-1, 8, MOST, LEAST}) {
            Check.throwing("22 times", ARGUMENT, () -> x.far(3, wrong, false));
        }
    }

    private static void ofUrn() {
        Urnwright x = Made.paying(Made.counts(3, 1, 2), 2, 1, -4, 5);
        x.draw(0, 1);
        x.stop(0, 2, 7);
        int[] due = {3, 3, 2, 2, -4, 2, 2, 1, -4, 5};
        for (int what = 0; what < 10; what++) {
            int asked = what;
            Check.same("23 " + what, due[what], () -> x.ofUrn(0, asked));
        }
        Check.throwing("23 what", ARGUMENT, () -> x.ofUrn(0, 10));
        Check.throwing("23 what below", ARGUMENT, () -> x.ofUrn(0, -1));
        Check.throwing("23 no urn", INDEX, () -> x.ofUrn(1, 10));
    }

    private static void text() {
        Urnwright x = Made.paying(Made.counts(3, 0, 2), 0, -4);
        Check.same("24 at first", "3-0-2|0", () -> x.text(0));
        x.draw(0, 0);
        Check.same("24 as the document says", "3-0-2|-4", () -> x.text(0));
        Urnwright wide = Made.with(0, 5, 0, 3);
        for (int i = 0; i < 6; i++) {
            wide.draw(0, 1);
        }
        Check.same("24 two digits", "0-23-0|0", () -> wide.text(0));
        Check.throwing("24 no urn", INDEX, () -> x.text(1));
        Check.throwing("24 no urn below", INDEX, () -> x.text(-1));
    }

    private static void tilt() {
        Check.same("25 a quarter", 0.25, () -> Made.with(2, 0, 1, 0).tilt(0));
        Check.same("25 its own sign", -1.25, () -> Made.with(0, 0, 5, 0).tilt(0));
        Check.same("25 little below 0", -0.25, () -> Made.with(1, 0, 2, 0).tilt(0));
        Check.same("25 nothing", 0.0, () -> Made.with(3, 1, 3, 0).tilt(0));
        Urnwright x = Made.paying(Made.counts(0, 1, 5), 3, 0, 0, 1);
        x.draw(0, 2);
        Check.same("25 at most, with the sign of gain", 1.5, () -> x.tilt(0));
        x.pay(0, 2, 5);
        x.back(0);
        Check.same("25 gain below 0", -1.25, () -> x.tilt(0));
        Urnwright even = Made.paying(Made.counts(2, 1, 2), 0, -1);
        even.draw(0, 0);
        Check.same("25 0 without a sign", 0.0, () -> even.tilt(0));
        Check.throwing("25 no urn", INDEX, () -> x.tilt(1));
    }

    private static void percent() {
        Check.same("26 a third", 33.0, () -> Made.with(1, 1, 1, 0).percent(0, 0));
        Check.same("26 two thirds", 67.0, () -> Made.with(2, 1, 0, 0).percent(0, 0));
        Check.same("26 a half to the even one below", 12.0, () -> Made.with(1, 5, 2, 0).percent(0, 0));
        Check.same("26 a half to the even one above", 38.0, () -> Made.with(3, 5, 0, 0).percent(0, 0));
        Check.same("26 five eighths", 62.0, () -> Made.with(5, 1, 2, 0).percent(0, 0));
        Urnwright seven = Made.with(5, 1, 0, 2);
        seven.draw(0, 0);
        Check.same("26 seven eighths", 88.0, () -> seven.percent(0, 0));
        Check.same("26 all", 100.0, () -> Made.with(0, 0, 1, 0).percent(0, 2));
        Check.same("26 nothing", 0.0, () -> Made.with(0, 0, 1, 0).percent(0, 1));
        Urnwright x = Made.with(1, 0, 0, -1);
        x.draw(0, 0);
        Check.same("26 with all counts 0", 0.0, () -> x.percent(0, 0));
        Check.throwing("26 no colour", INDEX, () -> x.percent(0, 3));
        Check.throwing("26 no colour below", INDEX, () -> x.percent(0, -1));
        Check.throwing("26 no urn", INDEX, () -> x.percent(1, 0));
    }

    private static void many() {
        Urnwright x = Made.paying(Made.counts(0, 1, 3), 1, 0, 2, -1);
        x.urn(0, 0, 3, 0);
        x.urn(0, 0, 3, -1);
        x.row(1, 1, 1, 1, 1);
        x.row(1, 1, 1, 1, 1);
        x.draw(0, 1);
        x.draw(0, 2);
        x.draw(2, 2);
        x.back(1);
        x.back(1);
        int[] due = {3, 2, 6 + 3 + 2, 1, 3, 2, 0};
        for (int what = 0; what < 7; what++) {
            int asked = what;
            Check.same("27 " + what, due[what], () -> x.many(asked));
        }
        x.back(0);
        x.back(0);
        x.back(2);
        Check.same("27 tilts below 0", -2, () -> x.many(6));
        Check.same("27 gains then", 0, () -> x.many(3));
        Check.throwing("27 what", ARGUMENT, () -> x.many(7));
        Check.throwing("27 what below", ARGUMENT, () -> x.many(-1));
    }

    private static void wouldGain() {
        Urnwright x = Made.paying(Made.counts(2, 0, 2), -1, 4, 1, -1);
        x.draw(0, 0);
        Check.same("28 behind these", 6, () -> x.wouldGain(0, 313));
        Check.same("28 behind none", 4, () -> x.wouldGain(0, 0));
        Check.throwing("28 none left", STATE, () -> x.wouldGain(0, 11));
        Check.throwing("28 never there", STATE, () -> x.wouldGain(0, 2));
        Check.throwing("28 more than there are", STATE, () -> x.wouldGain(0, 3131));
        for (int wrong : new int[] {4, 10, 11111, -1}) {
            Check.throwing("28 no path", ARGUMENT, () -> x.wouldGain(0, wrong));
        }
        Check.throwing("28 no urn", INDEX, () -> x.wouldGain(1, 4));
        Check.same("28 nothing is changed", "1-0-2|4", () -> x.text(0));
    }

    private static void stops() {
        Urnwright x = Made.paying(Made.counts(1, 1, 0), 0, 1, -1);
        Check.same("29 no less", 1, () -> x.stops(0, 1, -1));
        Check.same("29 less", 0, () -> x.stops(0, 1, 0));
        Check.same("29 all the nodes", 1 + 2 + 4 + 8, () -> x.stops(0, 4, 9));
        Check.same("29 some", 1, () -> x.stops(0, 2, -1));
        Check.same("29 no steps", 0, () -> x.stops(0, 0, 0));
        Check.throwing("29 strike", ARGUMENT, () -> x.stops(0, 1, 10));
        Check.throwing("29 strike below", ARGUMENT, () -> x.stops(0, 1, -10));
        noSteps("29", steps -> x.stops(0, steps, 0), steps -> x.stops(1, steps, 99));
        Check.same("29 only nodes with a chance", 1 + 1 + 1, () -> Made.with(0, 3, 0, -1).stops(0, 3, 0));
    }

    private static void digest() {
        Check.same("30 nothing told", 58240L * 31 * 31 * 31 * 31 * 31 * 31 * 31, () -> new Urnwright().digest());
        Urnwright x = Made.with(0, 1, 0, -1);
        x.draw(0, 1);
        x.row(1, 0, 0, 0, 0);
        long d = 58240;
        int[] due = {1, 1, 0, 0, 1, 0, 0, 0, 0, 0, -1, 0, 2, 0, 0, 0, 0, 0, 1, 0, 1, -1, -1, 0, 1, 0, 1, 0, 1, 0, 1};
        for (int v : due) {
            d = d * 31 + v;
        }
        Check.same("30 one of each", d, x::digest);
        Check.same("30 nothing is changed", d, x::digest);
        manyDigests();
    }

    /** Digests of objects with answers of all kinds, against the other answers in the order that the document tells. */
    private static void manyDigests() {
        Urnwright x = Made.paying(Made.counts(1, 2, 3), 2, 4, -3, 1);
        x.rule(0, 1, 0, 0, 2);
        x.stop(0, 1, 3);
        Check.same("30 one urn", Digests.due(x, 3), x::digest);
        x.urn(2, 1, 2, -1);
        x.pay(1, 0, -5);
        x.pay(1, 1, 5);
        x.stop(1, 3, 2);
        x.draw(1, 2);
        x.back(0);
        Check.same("30 two urns", Digests.due(x, 3, 3), x::digest);
        x.draw(1, 1);
        x.draw(1, 0);
        x.row(1, 1, 0, 0, 0);
        x.row(0, 1, 1, 1, 0);
        x.row(3, 0, 0, 2, 2);
        Check.same("30 fewer steps, and rows", Digests.due(x, 3, 2), x::digest);
    }

    private static void order() {
        Urnwright x = Made.with(1, 1, 1, 0);
        Check.throwing("urn before all", INDEX, () -> x.rule(4, 9, -1, -1, -1));
        Check.throwing("colour before pay", INDEX, () -> x.pay(0, 9, 99));
        Check.throwing("colour before state", INDEX, () -> x.draw(0, 9));
        Check.throwing("steps before times", ARGUMENT, () -> x.given(0, 9, 0, 99, false));
        Check.throwing("colour before steps", INDEX, () -> x.given(0, 9, 9, 99, false));
        Check.throwing("path before state", ARGUMENT, () -> x.wouldGain(0, 44));
        Check.same("nothing changed by what throws", "1-1-1|0", () -> x.text(0));
    }
}
