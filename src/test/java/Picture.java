/** All that can be asked of an object, as a text. What it asks last changes the object: DRAWS are taken back, RULES told anew. */
final class Picture {
    private static final int COLOURS = 3;

    private Picture() {
    }

    static String of(Urnwright x) {
        StringBuilder all = new StringBuilder();
        for (int what = 0; what <= 6; what++) {
            all.append(x.many(what)).append(' ');
        }
        int urns = x.many(0);
        int rows = x.many(1);
        for (int urn = 0; urn < urns; urn++) {
            all.append("\nurn ").append(x.text(urn));
            ofUrn(all, x, urn);
        }
        all.append("\nrows");
        for (int row = 0; row < rows * rows; row++) {
            all.append(' ').append(x.distance(row / rows, row % rows, false)).append('/').append(x.distance(row / rows, row % rows, true));
        }
        for (int urn = 0; urn < urns; urn++) {
            all.append("\nback");
            takeBack(all, x, urn);
        }
        return all.toString();
    }

    private static void ofUrn(StringBuilder all, Urnwright x, int urn) {
        for (int what = 0; what <= 9; what++) {
            all.append(' ').append(x.ofUrn(urn, what));
        }
        for (int colour = 0; colour < COLOURS; colour++) {
            all.append(' ').append(x.percent(urn, colour));
        }
        all.append(' ').append(Double.doubleToRawLongBits(x.tilt(urn)));
        for (int path = 0; path < 27; path++) {
            int number = 111 + path / 9 * 100 + path / 3 % 3 * 10 + path % 3;
            all.append(' ').append(x.chance(urn, number, false)).append('/').append(x.chance(urn, number, true));
        }
        int left = x.ofUrn(urn, 0) + x.ofUrn(urn, 1) + x.ofUrn(urn, 2);
        int steps = x.ofUrn(urn, 3) < 0 ? Math.min(left, 4) : 4;
        all.append(' ').append(x.stopped(urn, steps, true, false)).append('/').append(x.stopped(urn, steps, true, true));
    }

    private static void takeBack(StringBuilder all, Urnwright x, int urn) {
        while (x.ofUrn(urn, 5) != 0) {
            all.append(' ').append(x.back(urn)).append(' ').append(x.text(urn));
        }
        int growth = x.ofUrn(urn, 3);
        for (int colour = 0; growth >= 0 && colour < COLOURS; colour++) {
            all.append(' ').append(x.rule(urn, colour, growth, 0, 0));
        }
    }
}
