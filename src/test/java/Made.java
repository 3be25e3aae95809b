/** Objects that tests begin with. */
final class Made {
    private Made() {
    }

    static Urnwright with(int first, int second, int third, int growth) {
        Urnwright x = new Urnwright();
        x.urn(first, second, third, growth);
        return x;
    }

    /** An URN whose COLOURS pay as told. */
    static Urnwright paying(int[] counts, int growth, int... pays) {
        Urnwright x = with(counts[0], counts[1], counts[2], growth);
        for (int colour = 0; colour < pays.length; colour++) {
            x.pay(0, colour, pays[colour]);
        }
        return x;
    }

    static int[] counts(int... counts) {
        return counts;
    }

    /** Nothing is told. */
    static Urnwright empty() {
        return new Urnwright();
    }

    /** One URN of which all is drawn: its COUNTS are all 0, its GAIN is -2. */
    static Urnwright drawnOut() {
        Urnwright x = paying(counts(1, 0, 1), -1, 3, 4, -5);
        x.draw(0, 2);
        x.draw(0, 0);
        return x;
    }

    /** 4 URNS and 4 ROWS: the URN 0 has a PATH of 6 DRAWS, 1 has RULES, 2 goes down to 2 COUNTS, 3 was knocked at. */
    static Urnwright full() {
        Urnwright x = paying(counts(5, 5, 5), 3, 5, -5, 1);
        x.urn(1, 2, 3, 2);
        x.urn(2, 1, 2, -1);
        x.urn(0, 4, 0, 0);
        for (int drawn = 0; drawn < 6; drawn++) {
            x.draw(0, drawn % 3);
        }
        x.rule(1, 0, 0, 1, 1);
        x.rule(1, 2, 2, 0, 0);
        x.pay(1, 0, -2);
        x.pay(1, 2, 3);
        x.draw(1, 0);
        x.draw(1, 2);
        x.pay(2, 0, 4);
        x.pay(2, 2, -1);
        x.draw(2, 0);
        x.draw(2, 2);
        x.draw(2, 1);
        x.back(3);
        x.stop(0, 1, 5);
        x.stop(1, 3, 2);
        x.stop(2, 2, 1);
        x.row(9, 9, 9, 9, 9);
        x.row(0, 0, 0, 0, 1);
        x.row(1, 0, 2, 0, 3);
        x.row(0, 9, 0, 1, 0);
        return x;
    }

    /** As full(), with room for one URN and one ROW more. */
    static Urnwright some() {
        Urnwright x = paying(counts(1, 2, 3), 2, 4, -3, 1);
        x.urn(2, 1, 0, -1);
        x.urn(1, 1, 1, 0);
        x.rule(0, 1, 0, 0, 2);
        x.stop(0, 1, 3);
        x.pay(1, 0, -4);
        x.stop(1, 3, 2);
        x.draw(0, 1);
        x.draw(1, 0);
        x.back(2);
        x.row(1, 1, 0, 0, 0);
        x.row(0, 1, 1, 1, 0);
        x.row(3, 0, 0, 2, 2);
        return x;
    }
}
