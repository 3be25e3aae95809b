import java.math.BigInteger;
import java.util.Arrays;

/** 'Terms' sentence by sentence, and what the promises say beside their 'Throws' lines: what is too much, empty, full. */
public final class EdgeTest {
    private static final Class<IndexOutOfBoundsException> INDEX = IndexOutOfBoundsException.class;
    private static final Class<IllegalArgumentException> ARGUMENT = IllegalArgumentException.class;
    private static final Class<IllegalStateException> STATE = IllegalStateException.class;
    private static final int PLACES = 5;

    private EdgeTest() {
    }

    public static void main(String[] args) {
        calls();
        fractions();
        urns();
        told();
        draws();
        paths();
        leftOut();
        steps();
        gamePaths();
        fair();
        order();
        stopAt();
        stopKinds();
        prize();
        worth();
        walks();
        rows();
        distances();
        stepTables();
        stayTables();
        above();
        decks();
        tilts();
        knocks();
        back();
        gains();
        spread();
        given();
        slack();
        texts();
        percents();
        many();
        sumOfTilts();
        wouldGain();
        stops();
        nothing();
        allDrawn();
        noSteps();
        sixDraws();
        greatest();
        digestSteps();
        digestWraps();
        Check.end();
    }

    private static Urnwright after(Urnwright x, int... colours) {
        for (int colour : colours) {
            x.draw(0, colour);
        }
        return x;
    }

    /** An URN of one COLOUR that pays so much each time. */
    private static Urnwright sure(int pay) {
        return Made.paying(Made.counts(1, 0, 0), 0, pay);
    }

    private static Urnwright coin(int pay, int otherPay) {
        return Made.paying(Made.counts(1, 1, 0), 0, pay, otherPay);
    }

    // ---- ahead of the sections

    private static void calls() {
        Check.sentence("An object is used for at most 512 calls after it has been made");
        Urnwright knocked = Made.with(1, 1, 1, 0);
        for (int call = 2; call <= 511; call++) {
            knocked.back(0);
        }
        Check.same("the 512th call", 510, () -> knocked.many(5));
        Urnwright asked = Made.with(1, 2, 0, 1);
        for (int call = 2; call <= 511; call++) {
            asked.stopped(0, 4, true, false);
        }
        Check.same("a 512th call that is the second one of another", Made.with(1, 2, 0, 1).digest(), asked::digest);
        Urnwright drawn = Made.with(3, 0, 0, -1);
        for (int call = 2; call <= 511; call += 2) {
            drawn.draw(0, 0);
            drawn.back(0);
        }
        Check.same("a draw as the 512th call", 0, () -> drawn.draw(0, 0));
    }

    private static void fractions() {
        Check.sentence("NONE is -1.");
        Urnwright none = Made.with(1, 1, 0, 0);
        Check.same("back", -1, () -> none.back(0));
        Check.same("unfair", -1, () -> none.unfair(0, 4));
        Check.same("ordered", -1, () -> none.ordered(0, 4));
        Check.sentence("with isBelow what stands below (1 or more), without it what stands above (below 0, too)");
        Urnwright loss = Made.paying(Made.counts(1, 2, 0), 0, -1, -3);
        Check.fraction("mean", -7, 3, b -> loss.mean(0, 1, false, b));
        Check.fraction("given", -4, 1, b -> loss.given(0, 2, 0, 1, b));
        Check.fraction("stopped", -14, 3, b -> loss.stopped(0, 2, false, b));
        Check.sentence("in lowest terms (0 is 0 / 1)");
        Urnwright x = Made.paying(Made.counts(2, 2, 0), 0, 3, -3);
        x.row(1, 2, 3, 4, 5);
        x.row(5, 4, 3, 2, 1);
        zeros(x);
        shortened(x);
    }

    private static void zeros(Urnwright x) {
        Check.fraction("chance", 0, 1, b -> x.chance(0, 123, b));
        Check.fraction("gains", 0, 1, b -> x.gains(0, 3, 0, b));
        Check.fraction("mean", 0, 1, b -> x.mean(0, 3, false, b));
        Check.fraction("spread", 0, 1, b -> x.mean(0, 0, true, b));
        Check.fraction("given", 0, 1, b -> x.given(0, 4, 0, 2, b));
        Check.fraction("stopped yield", 0, 1, b -> x.stopped(0, 3, false, b));
        Check.fraction("stopped time", 0, 1, b -> x.stopped(0, 0, true, b));
        Check.fraction("worth", 0, 1, b -> x.worth(0, 3, 9, b));
        Check.fraction("slack", 0, 1, b -> x.slack(0, 1, 3, b));
        Check.fraction("walk", 0, 1, b -> x.walk(0, 8, 4, 3, false, b));
        Check.fraction("wait", 0, 1, b -> x.walk(8, 8, 4, 3, true, b));
        Check.fraction("distance", 0, 1, b -> x.distance(0, 0, b));
        Check.fraction("far", 0, 1, b -> x.far(2, 1, b));
    }

    private static void shortened(Urnwright x) {
        Check.fraction("chance shortened", 1, 16, b -> x.chance(0, 1212, b));
        Check.fraction("chance of 1", 1, 1, b -> Made.with(5, 0, 0, 3).chance(0, 1111, b));
        Check.fraction("gains shortened", 3, 8, b -> x.gains(0, 4, 0, b));
        Check.fraction("mean shortened", 2, 1, b -> Made.paying(Made.counts(2, 2, 0), 0, 4, 0).mean(0, 1, false, b));
        Check.fraction("spread shortened", 27, 1, b -> x.mean(0, 3, true, b));
        Check.fraction("given shortened", 6, 1, b -> x.given(0, 4, 0, 3, b));
        Check.fraction("stopped shortened", 4, 1, b -> x.stopped(0, 4, true, b));
        Check.fraction("worth shortened", 3, 2, b -> x.worth(0, 1, 0, b));
        Check.fraction("slack shortened", 2, 9, b -> x.slack(0, 2, 9, b));
        Check.fraction("walk shortened", 1, 2, b -> x.walk(4, 8, 3, 3, false, b));
        Check.fraction("distance shortened", 2, 5, b -> x.distance(0, 1, b));
        Check.fraction("far shortened", 1, 2, b -> x.far(3, 1, b));
    }

    // ---- 1. Urns

    private static void urns() {
        Check.sentence("COLOURS are 0, 1, 2.");
        Check.same("the first and the last", "0 0", () -> Made.with(1, 1, 1, 0).draw(0, 0) + " " + Made.with(1, 1, 1, 0).draw(0, 2));
        Check.throwing("none below", INDEX, () -> Made.with(1, 1, 1, 0).draw(0, -1));
        Check.throwing("none behind", INDEX, () -> Made.with(1, 1, 1, 0).draw(0, 3));
        Check.sentence("URNS: at most 4, numbered from 0");
        Urnwright x = Made.empty();
        for (int number = 0; number < 4; number++) {
            int n = number;
            Check.same("its number", n, () -> x.urn(n + 1, 0, 0, 0));
        }
        Check.throwing("no fifth", STATE, () -> x.urn(5, 0, 0, 0));
        Check.same("four stay", 4, () -> x.many(0));
        Check.same("each one stays as it was told", "1-0-0|0 2-0-0|0 3-0-0|0 4-0-0|0",
                () -> x.text(0) + " " + x.text(1) + " " + x.text(2) + " " + x.text(3));
        Check.sentence("COUNTS of the COLOURS (0 to 5 each, at least one in all, as it is told)");
        Check.same("the most", "5-5-5|0", () -> Made.with(5, 5, 5, 0).text(0));
        Check.same("the fewest", "0-0-1|0", () -> Made.with(0, 0, 1, 0).text(0));
        Check.throwing("more", ARGUMENT, () -> Made.with(5, 6, 5, 0));
        Check.throwing("none", ARGUMENT, () -> Made.with(0, 0, 0, 0));
        Check.same("more than 5 later on", "23-0-0|0", () -> after(Made.with(5, 0, 0, 3), 0, 0, 0, 0, 0, 0).text(0));
        Check.same("none in all later on", "0-0-0|0", () -> after(Made.with(1, 0, 1, -1), 2, 0).text(0));
    }

    private static void told() {
        Check.sentence("a GROWTH (-1 to 3)");
        for (int growth = -1; growth <= 3; growth++) {
            int g = growth;
            Check.same("as told", g, () -> Made.with(1, 1, 1, g).ofUrn(0, 3));
        }
        Check.throwing("less", ARGUMENT, () -> Made.with(1, 1, 1, -2));
        Check.throwing("more", ARGUMENT, () -> Made.with(1, 1, 1, 4));
        Check.sentence("a RULE (three ADDS of 0 or more, one for each COLOUR; GROWTH together)");
        Check.same("0 of two", 3, () -> Made.with(1, 1, 1, 3).rule(0, 0, 0, 3, 0));
        Check.throwing("less than 0", ARGUMENT, () -> Made.with(1, 1, 1, 3).rule(0, 0, -1, 4, 0));
        Check.throwing("not GROWTH", ARGUMENT, () -> Made.with(1, 1, 1, 3).rule(0, 0, 1, 1, 0));
        Check.sentence("a PAY for each COLOUR (-5 to 5; 0 at first)");
        for (int colour = 0; colour < 3; colour++) {
            int c = colour;
            Urnwright x = Made.with(1, 1, 1, 0);
            Check.same("at first", 0, () -> x.ofUrn(0, 7 + c));
            Check.same("nor before", 0, () -> x.pay(0, c, -5));
            Check.same("the least", -5, () -> x.ofUrn(0, 7 + c));
            Check.same("is told before", -5, () -> x.pay(0, c, 5));
            Check.same("the most", 5, () -> x.ofUrn(0, 7 + c));
            Check.throwing("more", ARGUMENT, () -> x.pay(0, c, 6));
            Check.throwing("less", ARGUMENT, () -> x.pay(0, c, -6));
        }
        Check.sentence("a GAIN and a PATH (0 and empty at first)");
        Check.same("gain", 0, () -> Made.with(1, 1, 1, 0).ofUrn(0, 4));
        Check.same("path", 0, () -> Made.with(1, 1, 1, 0).ofUrn(0, 5));
    }

    private static void draws() {
        Check.sentence("A DRAW of a COLOUR has the chance of its COUNT by all COUNTS together.");
        Check.fraction("none of them", 0, 1, b -> Made.with(1, 0, 0, 0).chance(0, 2, b));
        Check.fraction("all of them", 1, 1, b -> Made.with(0, 5, 0, 0).chance(0, 2, b));
        Check.fraction("one of fifteen", 1, 11, b -> Made.with(5, 5, 1, 0).chance(0, 3, b));
        Check.sentence("With a GROWTH of 0 or more it is put back, and each COUNT is more by the ADDS of the RULE of that COLOUR");
        Check.same("0", "1-2-3|0", () -> after(Made.with(1, 2, 3, 0), 0, 1, 2, 2).text(0));
        Urnwright x = Made.with(1, 2, 3, 2);
        x.rule(0, 1, 1, 0, 1);
        Check.same("with a rule", "2-2-4|0", () -> after(x, 1).text(0));
        Check.same("and another one by then", "2-2-6|0", () -> after(x, 2).text(0));
        Check.sentence("(at first each RULE adds GROWTH of the COLOUR itself)");
        for (int growth = 0; growth <= 3; growth++) {
            int g = growth;
            int more = 1 + g;
            Check.same("the first", more + "-1-1|0", () -> after(Made.with(1, 1, 1, g), 0).text(0));
            Check.same("the second", "1-" + more + "-1|0", () -> after(Made.with(1, 1, 1, g), 1).text(0));
            Check.same("the third", "1-1-" + more + "|0", () -> after(Made.with(1, 1, 1, g), 2).text(0));
            Check.same("of its own colour", g, () -> Made.with(1, 1, 1, g).rule(0, 2, g, 0, 0));
        }
        Check.sentence("with a GROWTH of -1 it is left out (there are no RULES)");
        Check.same("the last one of it", "0-2-3|0", () -> after(Made.with(1, 2, 3, -1), 0).text(0));
        Check.throwing("is there no more", STATE, () -> after(Made.with(1, 2, 3, -1), 0).draw(0, 0));
        Check.throwing("no rule", ARGUMENT, () -> Made.with(1, 2, 3, -1).rule(0, 0, 0, 0, 0));
        Check.sentence("GAIN is PAY more.");
        Check.same("the most", 30, () -> after(sure(5), 0, 0, 0, 0, 0).draw(0, 0));
        Check.same("the least", -30, () -> after(sure(-5), 0, 0, 0, 0, 0).draw(0, 0));
        Urnwright later = after(coin(2, -1), 0);
        later.pay(0, 0, 5);
        Check.same("a pay that is told later changes nothing of it", 1, () -> later.draw(0, 1));
    }

    private static void paths() {
        Check.sentence("The PATH has that COLOUR as its last one.");
        Check.same("one", 3, () -> after(Made.with(1, 1, 1, 0), 2).ofUrn(0, 5));
        Check.same("two", 31, () -> after(Made.with(1, 1, 1, 0), 2, 0).ofUrn(0, 5));
        Check.sentence("with a digit for each DRAW, the first one on the left: 1, 2, 3 for the COLOURS 0, 1, 2; the empty one is 0.");
        Check.same("the empty one", 0, () -> Made.with(1, 1, 1, 0).ofUrn(0, 5));
        Check.same("the longest", 123321, () -> after(Made.with(1, 1, 1, 0), 0, 1, 2, 2, 1, 0).ofUrn(0, 5));
        Urnwright again = after(Made.with(1, 1, 1, 0), 1);
        again.back(0);
        Check.same("the empty one again", 0, () -> again.ofUrn(0, 5));
        Check.fraction("the first one on the left", 1, 2, b -> coinThatTurns().chance(0, 12, b));
        Check.fraction("and not on the right", 0, 1, b -> coinThatTurns().chance(0, 21, b));
        Check.fraction("the empty one is sure", 1, 1, b -> coinThatTurns().chance(0, 0, b));
        Check.throwing("no digit 4", ARGUMENT, () -> coinThatTurns().chance(0, 4, false));
        Check.throwing("no digit 0", ARGUMENT, () -> coinThatTurns().chance(0, 10, false));
    }

    /** At first only the COLOUR 0 is there, and adds one of 1; that adds one of 0. */
    private static Urnwright coinThatTurns() {
        Urnwright x = Made.with(1, 0, 0, 1);
        x.rule(0, 0, 0, 1, 0);
        x.rule(0, 1, 1, 0, 0);
        return x;
    }

    private static void leftOut() {
        Check.sentence("With a GROWTH of -1 there are no more DRAWS than COUNTS together (a PATH of more has the chance 0).");
        Urnwright three = Made.with(1, 1, 1, -1);
        Check.fraction("as many", 1, 6, b -> three.chance(0, 321, b));
        Check.fraction("one more", 0, 1, b -> three.chance(0, 3211, b));
        Check.throwing("nor what would be", STATE, () -> three.wouldGain(0, 3211));
        Urnwright one = Made.with(0, 1, 0, -1);
        Check.fraction("as many as one", 1, 1, b -> one.chance(0, 2, b));
        Check.fraction("two of one", 0, 1, b -> one.chance(0, 22, b));
        Check.fraction("four of one", 0, 1, b -> one.chance(0, 2222, b));
        Check.same("the draw", 0, () -> one.draw(0, 1));
        Check.throwing("no draw more", STATE, () -> one.draw(0, 1));
        Check.fraction("none of none", 1, 1, b -> one.chance(0, 0, b));
        Check.fraction("one of none", 0, 1, b -> one.chance(0, 2, b));
    }

    // ---- 2. Games

    private static void steps() {
        Check.sentence("A GAME is an URN as it is now, and STEPS (0 to 4; with a GROWTH of -1 no more than all COUNTS together are)");
        Urnwright x = Made.paying(Made.counts(2, 1, 0), -1, 3, -1);
        Check.fraction("all", 5, 1, b -> x.mean(0, 3, false, b));
        Check.throwing("one more", ARGUMENT, () -> x.mean(0, 4, false, false));
        x.draw(0, 0);
        Check.fraction("all that are left", 2, 1, b -> x.mean(0, 2, false, b));
        Check.throwing("one more than are left", ARGUMENT, () -> x.mean(0, 3, false, false));
        x.back(0);
        Check.fraction("all again", 5, 1, b -> x.mean(0, 3, false, b));
        Check.throwing("one more than 4 of many", ARGUMENT, () -> Made.with(5, 5, 5, -1).mean(0, 5, false, false));
        Check.fraction("4 of one that is put back", 12, 1, b -> sure(3).mean(0, 4, false, b));
        Check.throwing("5 of it", ARGUMENT, () -> sure(3).mean(0, 5, false, false));
        Check.throwing("less than 0", ARGUMENT, () -> sure(3).mean(0, -1, false, false));
    }

    private static void gamePaths() {
        Check.sentence("Its PATHS are those of all these DRAWS, and only those with a chance above 0");
        Urnwright x = Made.paying(Made.counts(1, 1, 0), -1, 3, -1, 5);
        Check.fraction("both", 1, 1, b -> x.gains(0, 2, 2, b));
        Check.fraction("not one twice", 0, 1, b -> x.gains(0, 2, 6, b));
        Check.fraction("not what is not there", 0, 1, b -> x.gains(0, 1, 5, b));
        Check.fraction("not those of fewer draws", 0, 1, b -> x.gains(0, 2, 3, b));
        Check.sentence("the YIELD of a PATH is the sum of the PAYS of its DRAWS (GAIN of the URN does not matter)");
        Urnwright rich = after(sure(5), 0, 0, 0);
        Check.fraction("nothing without draws", 1, 1, b -> rich.gains(0, 0, 0, b));
        Check.fraction("not gain", 0, 1, b -> rich.gains(0, 0, 15, b));
        Check.fraction("mean", 5, 1, b -> rich.mean(0, 1, false, b));
        Check.fraction("worth", 0, 1, b -> rich.worth(0, 0, 0, b));
        Check.fraction("slack", 25, 36, b -> rich.slack(0, 1, 6, b));
        rich.stop(0, 1, 15);
        Check.fraction("stopped", 3, 1, b -> rich.stopped(0, 4, true, b));
    }

    private static void fair() {
        Check.sentence("A NODE is a PATH of fewer DRAWS than STEPS (the empty one, too; with a chance above 0)");
        Check.same("the empty one", 0, () -> sure(1).unfair(0, 1));
        Check.same("not without steps", -1, () -> sure(1).unfair(0, 0));
        Urnwright later = Made.paying(Made.counts(1, 1, 0), -1, 1, -1);
        Check.same("fewer than steps", 1, () -> later.unfair(0, 2));
        Check.same("not of as many draws", -1, () -> later.unfair(0, 1));
        Urnwright never = Made.paying(Made.counts(2, 0, 0), 1, 0, 5, -4);
        Check.same("with a chance", -1, () -> never.unfair(0, 4));
        never.rule(0, 0, 0, 1, 0);
        Check.same("that has a chance by then", 1, () -> never.unfair(0, 4));
        Check.same("but not among fewer steps", -1, () -> never.unfair(0, 1));
        Check.sentence("A GAME is FAIR, if at each NODE the mean PAY of the next DRAW is 0.");
        Check.same("at each", -1, () -> coin(5, -5).unfair(0, 4));
        Check.same("little above 0", 0, () -> coin(5, -4).unfair(0, 1));
        Check.same("little below 0", 0, () -> coin(4, -5).unfair(0, 1));
        Check.same("by counts", -1, () -> Made.paying(Made.counts(1, 5, 0), 0, 5, -1).unfair(0, 4));
        Check.sentence("the NODE at which the GAME is not FAIR (that with the fewest DRAWS, of several the smallest PATH); NONE, if it is FAIR.");
        Check.same("the smallest of three", 1, () -> Made.paying(Made.counts(1, 1, 1), -1, 1, -2, 1).unfair(0, 2));
        Check.same("the fewest draws", 3, () -> unfairBehindTheThird().unfair(0, 4));
        Check.same("behind two draws", 12, () -> unfairBehindTwo().unfair(0, 3));
        Check.same("none", -1, () -> coin(0, 0).unfair(0, 4));
    }

    private static Urnwright unfairBehindTheThird() {
        Urnwright x = Made.paying(Made.counts(1, 1, 1), 2, 1, -1, 0);
        x.rule(0, 0, 1, 1, 0);
        x.rule(0, 1, 1, 1, 0);
        x.rule(0, 2, 2, 0, 0);
        return x;
    }

    private static Urnwright unfairBehindTwo() {
        Urnwright x = Made.paying(Made.counts(1, 0, 0), 1, 0, 0, 5);
        x.rule(0, 0, 0, 1, 0);
        x.rule(0, 1, 0, 0, 1);
        return x;
    }

    private static void order() {
        Check.sentence("another chance than the one with two neighbouring DRAWS exchanged (0, if that has none)");
        Urnwright x = Made.with(1, 0, 0, 1);
        x.rule(0, 0, 0, 1, 0);
        Check.same("that has none", 12, () -> x.ordered(0, 2));
        Check.same("the first two draws of three", 121, () -> coinThatTurns().ordered(0, 3));
        Check.same("as often in any order", -1, () -> Made.with(5, 4, 3, 3).ordered(0, 4));
        Check.same("left out", -1, () -> Made.with(3, 2, 1, -1).ordered(0, 4));
        Check.same("put back", -1, () -> Made.with(3, 2, 1, 0).ordered(0, 4));
        Check.sentence("the smallest PATH of the GAME that has another chance than with two neighbouring DRAWS exchanged; NONE, if it has no ORDER.");
        Check.same("not 21, which has no chance", 12, () -> coinThatTurns().ordered(0, 2));
        Check.same("none with one step", -1, () -> coinThatTurns().ordered(0, 1));
        Check.same("none without steps", -1, () -> coinThatTurns().ordered(0, 0));
        Urnwright third = Made.with(1, 1, 1, 1);
        third.rule(0, 2, 1, 0, 0);
        Check.same("the smallest with an exchange", 13, () -> third.ordered(0, 2));
        Check.same("the last two draws of four", 1113, () -> third.ordered(0, 4));
    }

    private static void time(String what, long due, int pay, int kind, int number) {
        Urnwright x = sure(pay);
        x.stop(0, kind, number);
        Check.fraction(what + " " + number, due, 1, b -> x.stopped(0, 4, true, b));
    }

    private static void stopAt() {
        Check.sentence("An URN has a STOP of a KIND with a number (at first KIND 0)");
        Check.same("at first", 0, () -> sure(1).ofUrn(0, 6));
        Check.same("and before", 0, () -> sure(1).stop(0, 3, 20));
        Check.sentence("one stops at the first NODE, or PATH, of the GAME, at which it holds, and at the end in any case");
        Urnwright x = coin(1, -1);
        x.stop(0, 1, 1);
        Check.fraction("time", 3, 2, b -> x.stopped(0, 2, true, b));
        Check.fraction("yield", 0, 1, b -> x.stopped(0, 2, false, b));
        Check.fraction("time of four", 19, 8, b -> x.stopped(0, 4, true, b));
        Check.fraction("without steps the end is at once", 0, 1, b -> x.stopped(0, 0, true, b));
        Check.fraction("nor is there yield", 0, 1, b -> x.stopped(0, 0, false, b));
        Urnwright fallen = coin(5, -5);
        fallen.stop(0, 2, 20);
        Check.fraction("only at the end", 4, 1, b -> fallen.stopped(0, 4, true, b));
    }

    private static void stopKinds() {
        Check.sentence("KIND 0 never holds");
        time("number", 4, 5, 0, 1);
        time("number", 4, -5, 0, 20);
        Check.sentence("1 YIELD is the number or more");
        time("at once", 1, 5, 1, 5);
        time("one more", 2, 5, 1, 6);
        time("in the end", 4, 5, 1, 20);
        time("just by then", 3, 5, 1, 15);
        time("not by then", 4, 5, 1, 16);
        time("never", 4, 1, 1, 5);
        time("not below 0", 4, -5, 1, 1);
        Check.sentence("2 YIELD is the contrary of the number or less");
        time("at once", 1, -5, 2, 5);
        time("one more", 2, -5, 2, 6);
        time("just by then", 3, -5, 2, 15);
        time("not by then", 4, -5, 2, 16);
        time("in the end", 4, -5, 2, 20);
        time("not above 0", 4, 5, 2, 1);
        time("nor with 0", 4, 0, 2, 1);
        Check.sentence("3 some COLOUR was drawn as often as the number says, or more (in the GAME)");
        for (int number = 1; number <= 6; number++) {
            time("of the first", Math.min(number, 4), 0, 3, number);
        }
        Urnwright each = Made.with(1, 1, 1, -1);
        each.stop(0, 3, 2);
        Check.fraction("no colour twice", 3, 1, b -> each.stopped(0, 3, true, b));
        each.stop(0, 3, 1);
        Check.fraction("any colour once", 1, 1, b -> each.stopped(0, 3, true, b));
        Urnwright drawn = after(Made.with(0, 0, 2, 0), 2, 2, 2);
        drawn.stop(0, 3, 3);
        Check.fraction("not what was drawn ahead of the game", 3, 1, b -> drawn.stopped(0, 4, true, b));
    }

    private static void prize() {
        Check.sentence("With a STRIKE the PRIZE of stopping is YIELD less STRIKE, or 0, if that is more.");
        Urnwright x = sure(5);
        for (int strike = -9; strike <= 9; strike++) {
            int s = strike;
            Check.fraction("without steps " + s, Math.max(0, -s), 1, b -> x.worth(0, 0, s, b));
            Check.fraction("with four " + s, 20 - s, 1, b -> x.worth(0, 4, s, b));
        }
        for (int strike = -9; strike <= 9; strike++) {
            int s = strike;
            Check.fraction("at once " + s, Math.max(0, -s), 1, b -> sure(-5).worth(0, 4, s, b));
        }
    }

    private static void worth() {
        Check.sentence("Returns the WORTH of the empty PATH, as a FRACTION.");
        Check.fraction("whatever was drawn", 5, 2, b -> after(coin(5, -5), 0, 0, 0).worth(0, 1, 0, b));
        Check.sentence("of a NODE its PRIZE, or the mean WORTH behind the next DRAW, whichever is more.");
        Check.fraction("behind it", 1, 2, b -> coin(1, -1).worth(0, 2, 0, b));
        Check.fraction("its prize", 9, 1, b -> coin(0, -1).worth(0, 4, -9, b));
        Check.fraction("both alike", 9, 1, b -> coin(1, -1).worth(0, 4, -9, b));
        Check.fraction("stops ahead of a loss", 1, 1, b -> Made.paying(Made.counts(1, 1, 0), -1, 2, -2).worth(0, 2, 0, b));
        Check.sentence("the WORTH of a PATH of all DRAWS is its PRIZE");
        Check.fraction("above 0", 5, 2, b -> coin(5, -5).worth(0, 1, 0, b));
        Check.fraction("never below 0", 0, 1, b -> coin(5, -5).worth(0, 1, 5, b));
    }

    // ---- 3. Walks

    private static void walks() {
        Check.sentence("A walk goes on the places 0 to n (2 to 8) from k");
        Urnwright x = Made.empty();
        Check.fraction("the fewest places", 4, 5, b -> x.walk(1, 2, 4, 1, false, b));
        Check.fraction("the most, from the left", 16384, 21845, b -> x.walk(1, 8, 4, 1, false, b));
        Check.fraction("the most, from the right", 5461, 21845, b -> x.walk(7, 8, 1, 4, false, b));
        Check.throwing("fewer", ARGUMENT, () -> x.walk(0, 1, 1, 1, false, false));
        Check.throwing("more", ARGUMENT, () -> x.walk(0, 9, 1, 1, false, false));
        Check.sentence("each time up with the chance u by u and v, down with v by that (u, v of 1 to 4)");
        for (int same = 1; same <= 4; same++) {
            int u = same;
            Check.fraction("alike " + u, 1, 8, b -> x.walk(1, 8, u, u, false, b));
            Check.fraction("waiting " + u, 7, 1, b -> x.walk(1, 8, u, u, true, b));
        }
        Check.fraction("twice as high", x.walk(3, 7, 1, 2, true, false), x.walk(3, 7, 1, 2, true, true), b -> x.walk(3, 7, 2, 4, true, b));
        Check.fraction("as near as can be", 3, 7, b -> x.walk(1, 2, 3, 4, false, b));
        Check.sentence("till it is at 0 or at n");
        for (int end = 2; end <= 8; end++) {
            int n = end;
            Check.fraction("at 0", 0, 1, b -> x.walk(0, n, 4, 1, false, b));
            Check.fraction("no wait at 0", 0, 1, b -> x.walk(0, n, 1, 4, true, b));
            Check.fraction("at n", 1, 1, b -> x.walk(n, n, 1, 4, false, b));
            Check.fraction("no wait at n", 0, 1, b -> x.walk(n, n, 4, 4, true, b));
        }
        Check.fraction("one step", 1, 1, b -> x.walk(1, 2, 1, 4, true, b));
    }

    // ---- 4. Rows, tables, decks

    private static void rows() {
        Check.sentence("ROWS: at most 4, numbered from 0");
        Urnwright x = Made.empty();
        for (int number = 0; number < 4; number++) {
            int n = number;
            Check.same("its number", n, () -> x.row(n, 1, 1, 1, 1));
        }
        Check.throwing("no fifth", STATE, () -> x.row(9, 1, 1, 1, 1));
        Check.same("four stay", 4, () -> x.many(1));
        Check.fraction("the first and the last stay as they were told", 3, 7, b -> x.distance(0, 3, b));
        Check.sentence("each of 5 WEIGHTS (0 to 9, at least one above 0) at the places 0 to 4");
        for (int place = 0; place < PLACES; place++) {
            int p = place;
            Urnwright one = Made.empty();
            one.row(p == 0 ? 9 : 0, p == 1 ? 9 : 0, p == 2 ? 9 : 0, p == 3 ? 9 : 0, p == 4 ? 9 : 0);
            Check.same("at its place", 81, () -> one.table(0, 0, p, p, false));
            Check.same("staying", 81, () -> one.table(0, 0, p, p, true));
        }
        Check.throwing("none above 0", ARGUMENT, () -> Made.empty().row(0, 0, 0, 0, 0));
        Check.throwing("above 9", ARGUMENT, () -> Made.empty().row(0, 0, 0, 0, 10));
        Check.throwing("below 0", ARGUMENT, () -> Made.empty().row(-1, 0, 0, 0, 9));
    }

    private static Urnwright pair(int[] one, int[] other) {
        Urnwright x = Made.empty();
        x.row(one[0], one[1], one[2], one[3], one[4]);
        x.row(other[0], other[1], other[2], other[3], other[4]);
        return x;
    }

    private static int[] row(int... weights) {
        return weights;
    }

    private static void distances() {
        Check.sentence("their DISTANCE is half the sum of all differences of chances, without sign.");
        Check.fraction("nothing in common", 1, 1, b -> pair(row(1, 0, 0, 0, 0), row(0, 9, 9, 9, 9)).distance(0, 1, b));
        Check.fraction("as many times as much", 0, 1, b -> pair(row(1, 2, 3, 0, 4), row(2, 4, 6, 0, 8)).distance(0, 1, b));
        Check.fraction("some", 1, 5, b -> pair(row(1, 1, 1, 1, 1), row(1, 1, 1, 0, 1)).distance(0, 1, b));
        Check.fraction("the other way round", 1, 5, b -> pair(row(1, 1, 1, 1, 1), row(1, 1, 1, 0, 1)).distance(1, 0, b));
        Check.fraction("little", 1, 55, b -> pair(row(9, 9, 9, 9, 9), row(9, 9, 9, 9, 8)).distance(0, 1, b));
    }

    /** Each place of a TABLE; where nothing is told it has 0. */
    private static void table(String what, Urnwright x, boolean isStaying, int[][] told) {
        int[][] due = new int[PLACES][PLACES];
        for (int[] one : told) {
            due[one[0]][one[1]] = one[2];
        }
        for (int place = 0; place < PLACES; place++) {
            for (int its = 0; its < PLACES; its++) {
                int i = place;
                int j = its;
                Check.same(what + " at " + i + " " + j, due[i][j], () -> x.table(0, 1, i, j, isStaying));
            }
        }
    }

    private static void sides(boolean isStaying) {
        int[] one = row(3, 1, 4, 1, 5);
        int[] other = row(2, 0, 1, 8, 2);
        Urnwright x = pair(one, other);
        for (int place = 0; place < PLACES; place++) {
            int sum = 0;
            int itsSum = 0;
            for (int k = 0; k < PLACES; k++) {
                sum += x.table(0, 1, place, k, isStaying);
                itsSum += x.table(0, 1, k, place, isStaying);
            }
            int got = sum;
            int itsGot = itsSum;
            Check.same("the side of the first one", one[place] * 13, () -> got);
            Check.same("the side of the other one", other[place] * 14, () -> itsGot);
        }
    }

    private static void stepTables() {
        Check.sentence("A TABLE of two ROWS has 25 numbers, S times T together, with the sides WEIGHT times T (by the first one's places) "
                + "and WEIGHT times S (by the other one's).");
        sides(false);
        sides(true);
        Check.sentence("along both sides at once, from the place 0 on, each time as much as both have left there, and on where one has nothing left.");
        table("from one end to the other", pair(row(1, 0, 0, 0, 0), row(0, 0, 0, 0, 1)), false, new int[][] {{0, 4, 1}});
        table("and back", pair(row(0, 0, 0, 0, 1), row(1, 0, 0, 0, 0)), false, new int[][] {{4, 0, 1}});
        table("with empty places", pair(row(1, 0, 0, 0, 1), row(0, 0, 1, 0, 0)), false, new int[][] {{0, 2, 1}, {4, 2, 1}});
        table("both have nothing left at once", pair(row(9, 9, 9, 9, 9), row(9, 9, 9, 9, 9)), false,
                new int[][] {{0, 0, 405}, {1, 1, 405}, {2, 2, 405}, {3, 3, 405}, {4, 4, 405}});
        table("one has some left", pair(row(2, 1, 0, 0, 0), row(0, 1, 2, 0, 0)), false, new int[][] {{0, 1, 3}, {0, 2, 3}, {1, 2, 3}});
        table("all along one side", pair(row(0, 0, 1, 0, 0), row(1, 2, 3, 4, 5)), false,
                new int[][] {{2, 0, 1}, {2, 1, 2}, {2, 2, 3}, {2, 3, 4}, {2, 4, 5}});
    }

    private static void stayTables() {
        Check.sentence("The one that STAYS: first at each place with itself the smaller one of both sides; then by STEPS of what is left.");
        table("nothing stays", pair(row(1, 0, 0, 0, 0), row(0, 0, 0, 0, 1)), true, new int[][] {{0, 4, 1}});
        table("all stays", pair(row(1, 0, 2, 0, 0), row(2, 0, 4, 0, 0)), true, new int[][] {{0, 0, 6}, {2, 2, 12}});
        table("the last one stays", pair(row(0, 0, 0, 1, 1), row(0, 0, 1, 0, 1)), true, new int[][] {{4, 4, 2}, {3, 2, 2}});
        table("some stays", pair(row(2, 1, 0, 0, 0), row(0, 1, 2, 0, 0)), true, new int[][] {{1, 1, 3}, {0, 2, 6}});
        table("what is left goes by steps", pair(row(1, 1, 1, 0, 0), row(0, 0, 1, 1, 1)), true, new int[][] {{2, 2, 3}, {0, 3, 3}, {1, 4, 3}});
        table("from itself, too", pair(row(1, 2, 0, 0, 0), row(2, 1, 0, 0, 0)), true, new int[][] {{0, 0, 3}, {1, 1, 3}, {1, 0, 3}});
    }

    private static void above(String what, boolean due, boolean dueBack, int[] one, int[] other) {
        Check.same(what, due, () -> pair(one, other).isAbove(0, 1));
        Check.same(what + ", the other way round", dueBack, () -> pair(one, other).isAbove(1, 0));
    }

    private static void above() {
        Check.sentence("The first ROW is ABOVE the other one, if for each place its chance of that place or more is no less than that of the other one.");
        above("itself", true, true, row(1, 2, 3, 4, 5), row(1, 2, 3, 4, 5));
        above("as many times as much", true, true, row(1, 0, 3, 0, 1), row(3, 0, 9, 0, 3));
        above("the greatest one", true, false, row(0, 0, 0, 0, 1), row(0, 0, 0, 1, 9));
        above("the least one", false, true, row(1, 0, 0, 0, 0), row(9, 1, 0, 0, 0));
        above("only the last place is more", true, false, row(1, 1, 1, 0, 2), row(1, 1, 1, 1, 1));
        above("only the second place is more", true, false, row(0, 2, 1, 1, 1), row(1, 1, 1, 1, 1));
        above("neither", false, false, row(1, 0, 0, 0, 1), row(0, 1, 1, 0, 0));
    }

    private static void decks() {
        Check.sentence("A DECK of c cards (1 to 5) in order is shuffled: each time the top one is put to one of the c places");
        long orders = 1;
        for (int cards = 1; cards <= 5; cards++) {
            int c = cards;
            orders *= cards;
            long all = orders;
            Check.fraction("not shuffled " + c, all - 1, all, b -> Made.empty().far(c, 0, b));
        }
        for (int times = 0; times <= 7; times++) {
            int t = times;
            Check.fraction("one card " + t, 0, 1, b -> Made.empty().far(1, t, b));
            Check.fraction("two cards " + t, t == 0 ? 1 : 0, t == 0 ? 2 : 1, b -> Made.empty().far(2, t, b));
        }
        Check.fraction("the most", 773, 6250, b -> Made.empty().far(5, 7, b));
        Check.throwing("no cards", ARGUMENT, () -> Made.empty().far(0, 1, false));
        Check.throwing("six cards", ARGUMENT, () -> Made.empty().far(6, 1, false));
        Check.sentence("Its FAR is half the sum, over all orders of the cards, of the differences of their chance and an even one, without sign.");
        Check.fraction("three orders of six", 1, 2, b -> Made.empty().far(3, 1, b));
        Check.fraction("four orders of twenty-four", 5, 6, b -> Made.empty().far(4, 1, b));
    }

    // ---- 5. Numbers with a point

    private static void tilts() {
        Check.sentence("a quarter of (the COUNT of the COLOUR 0 less that of 2), 1.5 at most without its sign");
        for (int lead = 0; lead <= 5; lead++) {
            int l = lead;
            Check.same("lead " + l, l / 4.0, () -> Made.with(l, 1, 0, 0).tilt(0));
            Check.same("lead " + -l, l == 0 ? 0.0 : -l / 4.0, () -> Made.with(0, 1, l, 0).tilt(0));
        }
        Check.same("just the most", 1.5, () -> after(Made.with(5, 0, 0, 1), 0).tilt(0));
        Check.same("more", 1.5, () -> after(Made.with(5, 0, 0, 1), 0, 0).tilt(0));
        Check.same("much more", 1.5, () -> after(Made.with(5, 0, 0, 3), 0, 0, 0, 0, 0, 0).tilt(0));
        Check.same("just the most below 0", -1.5, () -> after(Made.with(0, 0, 5, 1), 2).tilt(0));
        Check.same("more below 0", -1.5, () -> after(Made.with(0, 0, 5, 1), 2, 2).tilt(0));
        Check.sentence("if GAIN is not 0, with the sign of GAIN in place of its own");
        Check.same("1 is above 0", 1.25, () -> after(Made.paying(Made.counts(0, 0, 5), 0, 0, 0, 1), 2).tilt(0));
        Check.same("-1 is below 0", -1.25, () -> after(Made.paying(Made.counts(5, 0, 0), 0, -1), 0).tilt(0));
        Check.same("both below 0", -0.25, () -> after(Made.paying(Made.counts(0, 0, 1), 0, 0, 0, -1), 2).tilt(0));
        Check.same("both above 0", 0.25, () -> after(Made.paying(Made.counts(1, 0, 0), 0, 1), 0).tilt(0));
        Check.same("1.5 at most, too", -1.5, () -> after(Made.paying(Made.counts(5, 0, 0), 3, -5), 0).tilt(0));
        Check.same("0 keeps its own", -0.5, () -> after(Made.paying(Made.counts(1, 1, 3), 0, 1, -1), 0, 1).tilt(0));
        Check.sentence("(0 stays 0, without a sign)");
        Check.same("with GAIN below 0", 0.0, () -> after(Made.paying(Made.counts(2, 1, 2), 0, 0, -5), 1).tilt(0));
        Check.same("with GAIN above 0", 0.0, () -> after(Made.paying(Made.counts(2, 1, 2), 0, 0, 5), 1).tilt(0));
        Check.same("with GAIN 0", 0.0, () -> Made.with(2, 1, 2, 0).tilt(0));
        Check.same("with nothing left", 0.0, () -> Made.drawnOut().tilt(0));
    }

    private static void knocks() {
        Check.sentence("KNOCKS are takes back of an URN with an empty PATH.");
        Urnwright x = Made.with(1, 1, 1, 0);
        x.urn(1, 1, 1, 0);
        Check.same("none at first", 0, () -> x.many(5));
        x.draw(0, 0);
        Check.same("not with a path", 0, () -> x.back(0) + x.many(5));
        Check.same("with none, though it had one", -1, () -> x.back(0));
        Check.same("counted", 1, () -> x.many(5));
        Check.same("of another urn", -1, () -> x.back(1));
        Check.throwing("of none", INDEX, () -> x.back(2));
        x.draw(1, 2);
        Check.same("and they stay", 2, () -> x.many(5));
    }

    // ---- the promises, beside what they throw

    private static void back() {
        Check.sentence("COUNTS are as they were ahead of it; GAIN is less by PAY as it is now; with an empty PATH that is a KNOCK.");
        Urnwright x = Made.paying(Made.counts(1, 1, 0), 3, 5, -5);
        after(x, 0, 1, 0, 1, 0, 1);
        Check.same("the longest path", "10-10-0|0", () -> x.text(0));
        x.rule(0, 0, 0, 0, 3);
        x.rule(0, 1, 0, 0, 3);
        x.pay(0, 1, 4);
        int[] colours = {1, 0, 1, 0, 1, 0, -1};
        String[] texts = {"10-7-0|-4", "7-7-0|-9", "7-4-0|-13", "4-4-0|-18", "4-1-0|-22", "1-1-0|-27", "1-1-0|-27"};
        for (int turn = 0; turn < colours.length; turn++) {
            int due = colours[turn];
            Check.same("colour " + turn, due, () -> x.back(0));
            Check.same("text " + turn, texts[turn], () -> x.text(0));
        }
        Check.same("by rules as they are now", "1-1-3|-22", () -> after(x, 0).text(0));
    }

    private static void gains() {
        Check.sentence("Returns the chance that the YIELD of the GAME is just that, as a FRACTION.");
        Urnwright x = sure(5);
        int[] others = {19, 21, 0, -20, 20 + 1000, Integer.MAX_VALUE, Integer.MIN_VALUE};
        Check.fraction("the most there can be", 1, 1, b -> x.gains(0, 4, 20, b));
        Check.fraction("the least there can be", 1, 1, b -> sure(-5).gains(0, 4, -20, b));
        for (int other : others) {
            Check.fraction("another one " + other, 0, 1, b -> x.gains(0, 4, other, b));
        }
    }

    private static void spread() {
        Check.sentence("whether the mean of squares of YIELD less the square of its mean, otherwise the mean of YIELD");
        Check.fraction("the most", 100, 1, b -> coin(5, -5).mean(0, 4, true, b));
        Check.fraction("none with one colour", 0, 1, b -> sure(-5).mean(0, 4, true, b));
        Check.fraction("its mean is the least", -20, 1, b -> sure(-5).mean(0, 4, false, b));
        Check.fraction("or the most", 20, 1, b -> sure(5).mean(0, 4, false, b));
        Check.fraction("none with two that pay alike", 0, 1, b -> coin(-3, -3).mean(0, 3, true, b));
        Check.fraction("none, when all is drawn", 0, 1, b -> Made.paying(Made.counts(1, 1, 1), -1, 5, -5, 1).mean(0, 3, true, b));
    }

    private static void given() {
        Check.sentence("Returns the mean YIELD of the GAME, given that, as a FRACTION.");
        Urnwright x = Made.paying(Made.counts(1, 1, 0), 0, 5, -4);
        for (int times = 0; times <= 4; times++) {
            int t = times;
            Check.fraction("so often " + t, 5 * t - 4 * (4 - t), 1, b -> x.given(0, 4, 0, t, b));
        }
        Check.fraction("never of no steps", 0, 1, b -> x.given(0, 0, 2, 0, b));
    }

    private static void slack() {
        Check.sentence("or 1, if that is less, is above the chance that YIELD, without its sign, is limit or more");
        Check.fraction("just 1", 0, 1, b -> sure(1).slack(0, 4, 4, b));
        Check.fraction("just 1 below 0", 0, 1, b -> sure(-1).slack(0, 4, 4, b));
        Check.fraction("more than 1", 0, 1, b -> sure(1).slack(0, 4, 3, b));
        Check.fraction("less than 1", 16, 25, b -> sure(1).slack(0, 4, 5, b));
        Check.fraction("1 is less, and some are below the limit", 1, 2, b -> coin(5, 1).slack(0, 1, 2, b));
        Check.fraction("just the limit, on both sides", 0, 1, b -> coin(5, -5).slack(0, 1, 5, b));
        Check.fraction("the greatest limit", 0, 1, b -> sure(5).slack(0, 4, 20, b));
        Check.fraction("the greatest limit below 0", 0, 1, b -> sure(-5).slack(0, 4, 20, b));
        Check.fraction("the smallest limit", 0, 1, b -> sure(0).slack(0, 4, 1, b));
    }

    private static void texts() {
        Check.sentence("Returns its COUNTS with \"-\" between, then \"|\", then GAIN (3-0-2|-4).");
        Check.same("as it says", "3-0-2|-4", () -> after(Made.paying(Made.counts(3, 1, 2), -1, 0, -4), 1).text(0));
        Check.same("with nothing left", "0-0-0|-2", () -> Made.drawnOut().text(0));
        Check.same("with two digits", "20-0-0|25", () -> after(Made.paying(Made.counts(5, 0, 0), 3, 5), 0, 0, 0, 0, 0).text(0));
        Check.same("with the least gain", "0-0-1|-30", () -> after(Made.paying(Made.counts(0, 0, 1), 0, 0, 0, -5), 2, 2, 2, 2, 2, 2).text(0));
    }

    private static void percents() {
        Check.sentence("to the nearest whole (of a half to the even one)");
        Check.same("12.5", 12.0, () -> Made.with(1, 5, 2, 0).percent(0, 0));
        Check.same("37.5", 38.0, () -> Made.with(3, 5, 0, 0).percent(0, 0));
        Check.same("62.5", 62.0, () -> Made.with(3, 5, 0, 0).percent(0, 1));
        Check.same("87.5", 88.0, () -> after(Made.with(5, 1, 0, 2), 0).percent(0, 0));
        Check.same("little below a half", 42.0, () -> Made.with(5, 5, 2, 0).percent(0, 0));
        Check.same("just 42.86", 43.0, () -> Made.with(3, 4, 0, 0).percent(0, 0));
        Check.same("just 57.14", 57.0, () -> Made.with(3, 4, 0, 0).percent(0, 1));
        Check.same("all", 100.0, () -> Made.with(5, 0, 0, 0).percent(0, 0));
        Check.same("none", 0.0, () -> Made.with(5, 0, 0, 0).percent(0, 2));
        Check.sentence("0 with all COUNTS 0.");
        for (int colour = 0; colour < 3; colour++) {
            int c = colour;
            Check.same("colour " + c, 0.0, () -> Made.drawnOut().percent(0, c));
        }
    }

    private static void manyOf(String what, Urnwright x, int... due) {
        for (int asked = 0; asked < due.length; asked++) {
            int a = asked;
            Check.same(what + " " + a, due[a], () -> x.many(a));
        }
    }

    private static void many() {
        Check.sentence("0 URNS, 1 ROWS, 2 all COUNTS, 3 all GAINS, 4 DRAWS of all PATHS, 5 KNOCKS ever");
        manyOf("nothing told", Made.empty(), 0, 0, 0, 0, 0, 0, 0);
        manyOf("all told", Made.full(), 4, 4, 33 + 10 + 2 + 4, 2 + 1 + 3, 6 + 2 + 3, 1, 0);
        manyOf("nothing left", Made.drawnOut(), 1, 0, 0, -2, 2, 0, 0);
        manyOf("the most of each", fourOf(5, 3, 5, 6), 4, 0, 4 * 23, 4 * 30, 4 * 6, 0, 6);
        manyOf("the least gains", fourOf(5, 0, -5, 6), 4, 0, 4 * 5, -4 * 30, 4 * 6, 0, -5);
    }

    /** 4 URNS of the COLOUR 0 alone, with so many DRAWS each. */
    private static Urnwright fourOf(int count, int growth, int pay, int draws) {
        Urnwright x = Made.empty();
        for (int urn = 0; urn < 4; urn++) {
            x.urn(count, 0, 0, growth);
            x.pay(urn, 0, pay);
            for (int drawn = 0; drawn < draws; drawn++) {
                x.draw(urn, 0);
            }
        }
        return x;
    }

    private static void tiltsOf(int due, int... leads) {
        Urnwright x = Made.empty();
        for (int lead : leads) {
            x.urn(Math.max(lead, 0), 1, Math.max(-lead, 0), 0);
        }
        Check.same("quarters " + Arrays.toString(leads), due, () -> x.many(6));
    }

    private static void sumOfTilts() {
        Check.sentence("6 the sum of all TILTS without what is behind its point");
        tiltsOf(0, 3);
        tiltsOf(1, 3, 1);
        tiltsOf(1, 3, 4);
        tiltsOf(2, 3, 4, 1);
        tiltsOf(5, 5, 5, 5, 5);
        tiltsOf(0, -1);
        tiltsOf(0, -3);
        tiltsOf(-1, -3, -1);
        tiltsOf(-1, -3, -4);
        tiltsOf(-2, -5, -3);
        tiltsOf(0, 5, -5);
        tiltsOf(0, 5, -2, -5);
        Check.same("1.5 of each", 6, () -> fourOf(5, 1, 0, 1).many(6));
        Check.same("-1.5 of each", -6, () -> fourOf(5, 1, -1, 1).many(6));
    }

    private static void wouldGain() {
        Check.sentence("Returns GAIN of the URN behind these DRAWS.");
        Check.same("the most", 50, () -> after(sure(5), 0, 0, 0, 0, 0, 0).wouldGain(0, 1111));
        Check.same("the least", -50, () -> after(sure(-5), 0, 0, 0, 0, 0, 0).wouldGain(0, 1111));
        Check.same("behind none", -5, () -> after(sure(-5), 0).wouldGain(0, 0));
        Check.same("nothing was gained yet", 0, () -> sure(-5).wouldGain(0, 0));
        Urnwright x = after(coin(5, -3), 0);
        x.pay(0, 0, 1);
        Check.same("with the pays as they are now", 5 + 1 - 3, () -> x.wouldGain(0, 12));
        Check.same("and the draws stay as they were", 1, () -> x.ofUrn(0, 5));
    }

    private static void stops() {
        Check.sentence("(PRIZE is no less than the mean WORTH behind the next DRAW); 0 with 0 STEPS.");
        Check.same("as much", 1, () -> coin(1, -1).stops(0, 1, -1));
        Check.same("less", 0, () -> coin(1, -1).stops(0, 1, 0));
        Check.same("0 is as much as 0", 1, () -> coin(1, -1).stops(0, 1, 1));
        for (int strike = -9; strike <= 9; strike++) {
            int s = strike;
            Check.same("no steps " + s, 0, () -> coin(1, -1).stops(0, 0, s));
        }
        int all = 0;
        int nodes = 1;
        for (int steps = 1; steps <= 4; steps++) {
            all += nodes;
            nodes *= 3;
            int due = all;
            int s = steps;
            Check.same("all nodes of " + s, due, () -> Made.with(1, 1, 1, 0).stops(0, s, 0));
            Check.same("only those with a chance of " + s, s, () -> sure(0).stops(0, s, 0));
        }
        Check.same("those left out are none", 1 + 3 + 6, () -> Made.with(1, 1, 1, -1).stops(0, 3, 9));
    }

    // ---- empty and full

    private static void nothing() {
        Check.sentence("Creates a court without URNS.");
        Urnwright another = Made.full();
        long before = another.digest();
        Urnwright x = Made.empty();
        manyOf("of all", x, 0, 0, 0, 0, 0, 0, 0);
        Check.same("digest", 58240L * 31 * 31 * 31 * 31 * 31 * 31 * 31, x::digest);
        for (int number = -1; number <= 4; number++) {
            int n = number;
            Check.throwing("no urn to ask", INDEX, () -> x.ofUrn(n, 0));
            Check.throwing("no urn to draw from", INDEX, () -> x.draw(n, 0));
            Check.throwing("no urn to take back from", INDEX, () -> x.back(n));
            Check.throwing("no game", INDEX, () -> x.mean(n, 0, false, false));
            Check.throwing("no row", INDEX, () -> x.distance(n, n, false));
        }
        Check.same("nor knocks by that", 0, () -> x.many(5));
        Check.fraction("but walks", 1, 2, b -> x.walk(1, 2, 1, 1, false, b));
        Check.fraction("and decks", 1, 2, b -> x.far(2, 0, b));
        Check.same("the first urn is 0", 0, () -> x.urn(0, 0, 1, 0));
        Check.same("the first row is 0", 0, () -> x.row(0, 0, 0, 0, 1));
        Check.same("another object stays as it was", before, another::digest);
    }

    private static void allDrawn() {
        Check.sentence("with a GROWTH of -1 no more than all COUNTS together are");
        Urnwright x = Made.drawnOut();
        emptyGame(x);
        Check.throwing("no step", ARGUMENT, () -> x.gains(0, 1, 0, false));
        Check.throwing("no draw", STATE, () -> x.draw(0, 0));
        int[] due = {0, 0, 0, -1, -2, 31, 0, 3, 4, -5};
        for (int what = 0; what < due.length; what++) {
            int w = what;
            Check.same("what " + w, due[w], () -> x.ofUrn(0, w));
        }
        Check.same("gain", -2, () -> x.wouldGain(0, 0));
        Check.throwing("no gain behind a draw", STATE, () -> x.wouldGain(0, 3));
        Check.same("digest", Digests.due(x, 0), x::digest);
        Check.same("taken back", 0, () -> x.back(0));
        Check.same("one is there again", "1-0-0|-5", () -> x.text(0));
        Check.fraction("one step again", 3, 1, b -> x.mean(0, 1, false, b));
    }

    /** What a GAME of 0 STEPS answers, whatever the URN is. */
    private static void emptyGame(Urnwright x) {
        Check.fraction("the empty path", 1, 1, b -> x.chance(0, 0, b));
        Check.fraction("a yield of 0", 1, 1, b -> x.gains(0, 0, 0, b));
        Check.fraction("another one", 0, 1, b -> x.gains(0, 0, 1, b));
        Check.fraction("mean", 0, 1, b -> x.mean(0, 0, false, b));
        Check.fraction("spread", 0, 1, b -> x.mean(0, 0, true, b));
        Check.same("unfair", -1, () -> x.unfair(0, 0));
        Check.same("ordered", -1, () -> x.ordered(0, 0));
        for (int colour = 0; colour < 3; colour++) {
            int c = colour;
            Check.fraction("given", 0, 1, b -> x.given(0, 0, c, 0, b));
            Check.throwing("given one", ARGUMENT, () -> x.given(0, 0, c, 1, false));
        }
        Check.fraction("stopped yield", 0, 1, b -> x.stopped(0, 0, false, b));
        Check.fraction("stopped time", 0, 1, b -> x.stopped(0, 0, true, b));
        Check.fraction("worth", 9, 1, b -> x.worth(0, 0, -9, b));
        Check.fraction("worth nothing", 0, 1, b -> x.worth(0, 0, 9, b));
        Check.fraction("slack", 0, 1, b -> x.slack(0, 0, 1, b));
        Check.same("stops", 0, () -> x.stops(0, 0, -9));
    }

    private static void noSteps() {
        Check.sentence("STEPS (0 to 4");
        emptyGame(Made.paying(Made.counts(5, 1, 2), 3, 5, 5, 5));
        emptyGame(after(Made.paying(Made.counts(5, 1, 2), -1, -5, -4, 3), 0, 1, 2));
        emptyGame(Made.full());
        Urnwright stopping = coin(5, 5);
        for (int kind = 0; kind <= 3; kind++) {
            stopping.stop(0, kind, 1);
            emptyGame(stopping);
        }
    }

    private static void sixDraws() {
        Check.sentence("the PATH of the URN has 6 DRAWS (GAMES, and PATHS that are asked for, go on behind these)");
        Urnwright x = after(Made.paying(Made.counts(1, 1, 0), 1, 1), 0, 0, 0, 0, 0);
        Check.same("the sixth", 6, () -> x.draw(0, 0));
        Check.throwing("the seventh", STATE, () -> x.draw(0, 0));
        Check.same("six it stays", "111111 7-1-0|6", () -> x.ofUrn(0, 5) + " " + x.text(0));
        Check.fraction("a path of 4", 7, 11, b -> x.chance(0, 1111, b));
        Check.fraction("a game of 4", 7, 2, b -> x.mean(0, 4, false, b));
        Check.same("what would be", 10, () -> x.wouldGain(0, 1111));
        Check.same("the least path of 4", 6, () -> x.wouldGain(0, 2222));
        Check.same("digest", Digests.due(x, 3), x::digest);
        Check.same("one taken back", 0, () -> x.back(0));
        Check.same("five are left", 11111, () -> x.ofUrn(0, 5));
        Check.same("another sixth", 5, () -> x.draw(0, 1));
        Urnwright left = after(Made.with(5, 5, 5, -1), 0, 1, 2, 0, 1, 2);
        Check.throwing("the seventh of fifteen", STATE, () -> left.draw(0, 0));
        Check.fraction("three of nine", 1, 84, b -> left.chance(0, 111, b));
        Check.fraction("four of three", 0, 1, b -> left.chance(0, 1111, b));
        Check.same("steps", 1 + 3 + 9 + 27, () -> left.stops(0, 4, 9));
    }

    /** The URN with the most COUNTS, and the greatest PAYS: nothing of it wraps around. */
    private static void greatest() {
        Check.sentence("as a FRACTION");
        Urnwright x = Made.paying(Made.counts(5, 5, 5), 3, 5, -5, 4);
        Court court = new Court();
        court.urn(5, 5, 5, 3);
        court.pay(0, 0, 5);
        court.pay(0, 1, -5);
        court.pay(0, 2, 4);
        for (int drawn = 0; drawn < 6; drawn++) {
            Check.same("drawn", court.draw(0, 0), () -> x.draw(0, 0));
        }
        Check.same("told so", court.stop(0, 1, 20), () -> x.stop(0, 1, 20));
        beside("the greatest chance", b -> court.chance(0, 1111, b), b -> x.chance(0, 1111, b));
        beside("the least yield", b -> court.gains(0, 4, -20, b), b -> x.gains(0, 4, -20, b));
        beside("the greatest yield", b -> court.gains(0, 4, 20, b), b -> x.gains(0, 4, 20, b));
        beside("mean", b -> court.mean(0, 4, false, b), b -> x.mean(0, 4, false, b));
        beside("spread", b -> court.mean(0, 4, true, b), b -> x.mean(0, 4, true, b));
        beside("given", b -> court.given(0, 4, 2, 1, b), b -> x.given(0, 4, 2, 1, b));
        beside("stopped", b -> court.stopped(0, 4, false, b), b -> x.stopped(0, 4, false, b));
        beside("stopped time", b -> court.stopped(0, 4, true, b), b -> x.stopped(0, 4, true, b));
        beside("worth", b -> court.worth(0, 4, -9, b), b -> x.worth(0, 4, -9, b));
        beside("slack", b -> court.slack(0, 4, 1, b), b -> x.slack(0, 4, 1, b));
        beside("slack of the greatest limit", b -> court.slack(0, 4, 20, b), b -> x.slack(0, 4, 20, b));
    }

    private static void beside(String what, Check.Parts due, Check.Parts got) {
        Check.fraction(what, due.part(false), due.part(true), got);
    }

    // ---- the checksum

    private static void digestSteps() {
        Check.sentence("then of as many STEPS as there can be, 3 at most");
        Urnwright x = Made.paying(Made.counts(2, 1, 2), -1, 3, -1, 2);
        x.stop(0, 1, 4);
        for (int left = 5; left >= 0; left--) {
            Check.same(left + " left", Digests.due(x, Math.min(left, 3)), x::digest);
            if (left > 0) {
                x.draw(0, new int[] {0, 0, 1, 2, 2}[left - 1]);
            }
        }
        Check.same("one that is put back", Digests.due(sure(2), 3), () -> sure(2).digest());
        Check.same("one that grows", Digests.due(Made.paying(Made.counts(1, 0, 0), 3, 5), 3),
                () -> Made.paying(Made.counts(1, 0, 0), 3, 5).digest());
    }

    private static void digestWraps() {
        Check.sentence("d becomes d * 31 + v, which wraps around as a 64-bit integer");
        Urnwright x = Made.empty();
        x.row(1, 2, 3, 4, 5);
        Check.same("not yet", Digests.unwrapped(x), () -> BigInteger.valueOf(x.digest()));
        x.row(5, 4, 3, 2, 1);
        Check.same("more than 64 bits", true, () -> Digests.unwrapped(x).bitLength() > 64);
        Check.same("wrapped around", Digests.unwrapped(x).longValue(), x::digest);
        Urnwright full = Made.full();
        Check.same("many more than 64 bits", true, () -> Digests.unwrapped(full, 3, 3, 2, 3).bitLength() > 500);
        Check.same("all told", Digests.due(full, 3, 3, 2, 3), full::digest);
        for (int pay = -5; pay <= 5; pay++) {
            Urnwright one = sure(pay);
            Check.same("with a pay of " + pay, Digests.due(one, 3), one::digest);
        }
        Check.same("to a number below 0", -1170381435291834327L, full::digest);
        Check.same("and to one above", 9165902197483412421L, () -> Made.with(1, 1, 1, 0).digest());
    }
}
