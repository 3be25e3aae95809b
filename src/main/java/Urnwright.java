/** A court of exact chance: what is told of urns, rows, walks and decks, and what is asked of them, as exact fractions. */
public final class Urnwright {
    private static final int NONE = -1;
    private static final int COLOURS = 3;
    private static final int URNS = 4;
    private static final int ROWS = 4;
    private static final int PLACES = 5;
    private static final int MOST_COUNT = 5;
    private static final int MOST_GROWTH = 3;
    private static final int MOST_PAY = 5;
    private static final int MOST_WEIGHT = 9;
    private static final int MOST_DRAWS = 6;
    private static final int MOST_STEPS = 4;
    private static final int MOST_STRIKE = 9;
    private static final int MOST_NUMBER = 20;
    private static final int MOST_CARDS = 5;
    private static final int MOST_SHUFFLES = 7;
    private static final int DIGEST_STEPS = 3;
    private static final long DIGEST_START = 58240L;
    /** All PATHS of 0 to 4 DRAWS: 1 + 3 + 9 + 27 + 81. */
    private static final int NODES = 121;

    private final Urn[] urns = new Urn[URNS];
    private final Row[] rows = new Row[ROWS];
    private final Game game = new Game();
    private final Sides sides = new Sides();
    private final Deck deck = new Deck();
    private int urnsTold;
    private int rowsTold;
    private int knocks;

    public Urnwright() {
    }

    // ---- what is told

    public int urn(int first, int second, int third, int growth) throws IllegalArgumentException, IllegalStateException {
        boolean isCounted = isWithin(first, 0, MOST_COUNT) && isWithin(second, 0, MOST_COUNT) && isWithin(third, 0, MOST_COUNT);
        if (!isCounted || first + second + third == 0 || !isWithin(growth, -1, MOST_GROWTH)) {
            throw new IllegalArgumentException("no urn");
        }
        int number = urnsTold;
        if (number < 0 || number >= urns.length) {
            throw new IllegalStateException("no more urns");
        }
        urns[number] = new Urn(first, second, third, growth);
        urnsTold++;
        return number;
    }

    public int rule(int urn, int colour, int first, int second, int third) throws IndexOutOfBoundsException, IllegalArgumentException {
        Urn fed = urnOf(urn);
        lookAtColour(colour);
        long together = (long) first + second + third;
        if (first < 0 || second < 0 || third < 0 || together != fed.growth) {
            throw new IllegalArgumentException("no rule");
        }
        int before = fed.addOf(colour, colour);
        put(fed.adds, COLOURS * colour, first);
        put(fed.adds, COLOURS * colour + 1, second);
        put(fed.adds, COLOURS * colour + 2, third);
        return before;
    }

    public int pay(int urn, int colour, int pay) throws IndexOutOfBoundsException, IllegalArgumentException {
        Urn paid = urnOf(urn);
        lookAtColour(colour);
        if (!isWithin(pay, -MOST_PAY, MOST_PAY)) {
            throw new IllegalArgumentException("no pay");
        }
        int before = at(paid.pays, colour);
        put(paid.pays, colour, pay);
        return before;
    }

    public int stop(int urn, int kind, int number) throws IndexOutOfBoundsException, IllegalArgumentException {
        Urn told = urnOf(urn);
        if (!isWithin(kind, 0, 3) || !isWithin(number, 1, MOST_NUMBER)) {
            throw new IllegalArgumentException("no stop");
        }
        int before = told.stopKind;
        told.stopKind = kind;
        told.stopNumber = number;
        return before;
    }

    public int draw(int urn, int colour) throws IndexOutOfBoundsException, IllegalStateException {
        Urn drawn = urnOf(urn);
        lookAtColour(colour);
        if (at(drawn.counts, colour) <= 0 || drawn.draws >= MOST_DRAWS) {
            throw new IllegalStateException("no such draw");
        }
        drawn.take(colour);
        return drawn.gain;
    }

    public int back(int urn) throws IndexOutOfBoundsException {
        Urn drawn = urnOf(urn);
        if (drawn.draws == 0) {
            knocks++;
            return NONE;
        }
        return drawn.takeBack();
    }

    public int row(int a, int b, int c, int d, int e) throws IllegalArgumentException, IllegalStateException {
        boolean isWeighed = isWeight(a) && isWeight(b) && isWeight(c) && isWeight(d) && isWeight(e);
        if (!isWeighed || a + b + c + d + e == 0) {
            throw new IllegalArgumentException("no row");
        }
        int number = rowsTold;
        if (number < 0 || number >= rows.length) {
            throw new IllegalStateException("no more rows");
        }
        rows[number] = new Row(a, b, c, d, e);
        rowsTold++;
        return number;
    }

    // ---- games

    public long chance(int urn, int path, boolean isBelow) throws IndexOutOfBoundsException, IllegalArgumentException {
        Urn asked = urnOf(urn);
        openPath(asked, path);
        long ways = at(game.ways, nodeOf(path));
        return part(ways, ways == 0 ? 1 : game.waysFrom(0), isBelow);
    }

    public long gains(int urn, int steps, int gain, boolean isBelow) throws IndexOutOfBoundsException, IllegalArgumentException {
        openGame(urnOf(urn), steps);
        return part(game.waysBetween(gain, gain), game.waysFrom(0), isBelow);
    }

    public long mean(int urn, int steps, boolean isSpread, boolean isBelow) throws IndexOutOfBoundsException, IllegalArgumentException {
        openGame(urnOf(urn), steps);
        long all = game.waysFrom(0);
        long sum = game.sumOfPowers(1);
        if (isSpread) {
            return part(game.sumOfPowers(2) * all - sum * sum, all * all, isBelow);
        }
        return part(sum, all, isBelow);
    }

    public int unfair(int urn, int steps) throws IndexOutOfBoundsException, IllegalArgumentException {
        Urn asked = urnOf(urn);
        openGame(asked, steps);
        return game.pathOfUnfair(asked);
    }

    public int ordered(int urn, int steps) throws IndexOutOfBoundsException, IllegalArgumentException {
        openGame(urnOf(urn), steps);
        return game.pathWithOrder();
    }

    public long given(int urn, int steps, int colour, int times, boolean isBelow) throws IndexOutOfBoundsException, IllegalArgumentException, IllegalStateException {
        Urn asked = urnOf(urn);
        lookAtColour(colour);
        openGame(asked, steps);
        if (!isWithin(times, 0, steps)) {
            throw new IllegalArgumentException("no such times");
        }
        long ways = game.sumOfPowersWith(0, colour, times);
        if (ways == 0) {
            throw new IllegalStateException("no chance of that");
        }
        return part(game.sumOfPowersWith(1, colour, times), ways, isBelow);
    }

    public long stopped(int urn, int steps, boolean isTime, boolean isBelow) throws IndexOutOfBoundsException, IllegalArgumentException {
        Urn asked = urnOf(urn);
        openGame(asked, steps);
        return part(game.sumStopped(asked, isTime), game.waysFrom(0), isBelow);
    }

    public long worth(int urn, int steps, int strike, boolean isBelow) throws IndexOutOfBoundsException, IllegalArgumentException {
        Urn asked = urnOf(urn);
        openGame(asked, steps);
        lookAtStrike(strike);
        game.weigh(strike);
        return part(at(game.worths, 0), game.waysFrom(0), isBelow);
    }

    public long slack(int urn, int steps, int limit, boolean isBelow) throws IndexOutOfBoundsException, IllegalArgumentException {
        Urn asked = urnOf(urn);
        openGame(asked, steps);
        if (!isWithin(limit, 1, MOST_NUMBER)) {
            throw new IllegalArgumentException("no such limit");
        }
        long square = (long) limit * limit;
        long all = game.waysFrom(0);
        long bound = Math.min(game.sumOfPowers(2), all * square);
        long outside = all - game.waysBetween(1 - limit, limit - 1);
        return part(bound - outside * square, all * square, isBelow);
    }

    // ---- walks, tables, decks

    public long walk(int from, int n, int up, int down, boolean isWait, boolean isBelow) throws IllegalArgumentException {
        if (!isWithin(n, 2, 8) || !isWithin(from, 0, n) || !isWithin(up, 1, 4) || !isWithin(down, 1, 4)) {
            throw new IllegalArgumentException("no walk");
        }
        if (up == down) {
            return isWait ? part(from * (n - from), 1, isBelow) : part(from, n, isBelow);
        }
        long ends = power(up, n - from) * (power(up, from) - power(down, from));
        long all = power(up, n) - power(down, n);
        if (!isWait) {
            return part(ends, all, isBelow);
        }
        // Each step is worth (up - down) / (up + down) places, so the mean way divided by that is the mean of steps.
        return part((up + down) * (n * ends - from * all), (up - down) * all, isBelow);
    }

    public long distance(int one, int other, boolean isBelow) throws IndexOutOfBoundsException {
        Row first = rowOf(one);
        Row second = rowOf(other);
        long apart = 0;
        for (int place = 0; place < PLACES; place++) {
            apart += Math.abs(at(first.weights, place) * second.sum - at(second.weights, place) * first.sum);
        }
        return part(apart, 2L * first.sum * second.sum, isBelow);
    }

    public int table(int one, int other, int place, int its, boolean isStaying) throws IndexOutOfBoundsException {
        Row first = rowOf(one);
        Row second = rowOf(other);
        if (!isWithin(place, 0, PLACES - 1) || !isWithin(its, 0, PLACES - 1)) {
            throw new IndexOutOfBoundsException("no such place");
        }
        sides.lay(first, second);
        int stays = isStaying ? sides.stay(place, its) : 0;
        return stays + sides.step(place, its);
    }

    public boolean isAbove(int one, int other) throws IndexOutOfBoundsException {
        Row first = rowOf(one);
        Row second = rowOf(other);
        int firstOnes = 0;
        int secondOnes = 0;
        for (int place = PLACES - 1; place >= 0; place--) {
            firstOnes += at(first.weights, place);
            secondOnes += at(second.weights, place);
            if (firstOnes * second.sum < secondOnes * first.sum) {
                return false;
            }
        }
        return true;
    }

    public long far(int cards, int times, boolean isBelow) throws IllegalArgumentException {
        if (!isWithin(cards, 1, MOST_CARDS) || !isWithin(times, 0, MOST_SHUFFLES)) {
            throw new IllegalArgumentException("no shuffles");
        }
        long orders = factorial(cards);
        long shuffles = power(cards, times);
        deck.shuffle(cards, times);
        return part(deck.sumOfDifferences(cards, orders, shuffles), 2 * orders * shuffles, isBelow);
    }

    // ---- what one asks of what is there

    public int ofUrn(int urn, int what) throws IndexOutOfBoundsException, IllegalArgumentException {
        Urn asked = urnOf(urn);
        if (!isWithin(what, 0, 9)) {
            throw new IllegalArgumentException("no such question");
        }
        switch (what) {
            case 3:
                return asked.growth;
            case 4:
                return asked.gain;
            case 5:
                return asked.path;
            case 6:
                return asked.stopKind;
            default:
                return what < COLOURS ? at(asked.counts, what) : at(asked.pays, what - 7);
        }
    }

    public String text(int urn) throws IndexOutOfBoundsException {
        Urn asked = urnOf(urn);
        StringBuilder told = new StringBuilder();
        told.append(at(asked.counts, 0)).append('-').append(at(asked.counts, 1)).append('-').append(at(asked.counts, 2));
        told.append('|').append(asked.gain);
        return told.toString();
    }

    public double tilt(int urn) throws IndexOutOfBoundsException {
        return urnOf(urn).lean();
    }

    public double percent(int urn, int colour) throws IndexOutOfBoundsException {
        Urn asked = urnOf(urn);
        lookAtColour(colour);
        int all = asked.countAll();
        if (all <= 0) {
            return 0.0;
        }
        return nearestWhole(100.0 * at(asked.counts, colour) / all);
    }

    public int many(int what) throws IllegalArgumentException {
        switch (what) {
            case 0:
                return urnsTold;
            case 1:
                return rowsTold;
            case 2:
            case 3:
            case 4:
                return sumOfUrns(what);
            case 5:
                return knocks;
            case 6:
                return (int) sumOfTilts();
            default:
                throw new IllegalArgumentException("no such question");
        }
    }

    // ---- what would be (nothing is changed)

    public int wouldGain(int urn, int path) throws IndexOutOfBoundsException, IllegalArgumentException, IllegalStateException {
        Urn asked = urnOf(urn);
        openPath(asked, path);
        int node = nodeOf(path);
        if (at(game.ways, node) == 0) {
            throw new IllegalStateException("no chance of that");
        }
        return asked.gain + at(game.yields, node);
    }

    public int stops(int urn, int steps, int strike) throws IndexOutOfBoundsException, IllegalArgumentException {
        Urn asked = urnOf(urn);
        openGame(asked, steps);
        lookAtStrike(strike);
        return game.weigh(strike);
    }

    public long digest() {
        long d = DIGEST_START;
        for (int what = 0; what <= 6; what++) {
            d = d * 31 + many(what);
        }
        for (int urn = 0; urn < urnsTold; urn++) {
            d = digestOfUrn(d, urn);
        }
        for (int one = 0; one < rowsTold; one++) {
            for (int other = 0; other < rowsTold; other++) {
                d = d * 31 + distance(one, other, false);
                d = d * 31 + distance(one, other, true);
            }
        }
        return d;
    }

    private long digestOfUrn(long before, int urn) {
        long d = before;
        for (int what = 0; what <= 9; what++) {
            d = d * 31 + ofUrn(urn, what);
        }
        int steps = Math.min(DIGEST_STEPS, urnOf(urn).mostSteps());
        d = d * 31 + mean(urn, steps, false, false);
        d = d * 31 + mean(urn, steps, false, true);
        d = d * 31 + mean(urn, steps, true, false);
        d = d * 31 + mean(urn, steps, true, true);
        d = d * 31 + unfair(urn, steps);
        d = d * 31 + ordered(urn, steps);
        d = d * 31 + stopped(urn, steps, false, false);
        d = d * 31 + stopped(urn, steps, false, true);
        d = d * 31 + stopped(urn, steps, true, false);
        d = d * 31 + stopped(urn, steps, true, true);
        d = d * 31 + worth(urn, steps, 1, false);
        return d * 31 + worth(urn, steps, 1, true);
    }

    // ---- what is there, and what is refused

    private Urn urnOf(int number) {
        if (number < 0 || number >= urns.length) {
            throw new IndexOutOfBoundsException("no such urn");
        }
        Urn found = urns[number];
        if (found == null) {
            throw new IndexOutOfBoundsException("no such urn");
        }
        return found;
    }

    private Row rowOf(int number) {
        if (number < 0 || number >= rows.length) {
            throw new IndexOutOfBoundsException("no such row");
        }
        Row found = rows[number];
        if (found == null) {
            throw new IndexOutOfBoundsException("no such row");
        }
        return found;
    }

    private static void lookAtColour(int colour) {
        if (!isWithin(colour, 0, COLOURS - 1)) {
            throw new IndexOutOfBoundsException("no such colour");
        }
    }

    private static void lookAtStrike(int strike) {
        if (!isWithin(strike, -MOST_STRIKE, MOST_STRIKE)) {
            throw new IllegalArgumentException("no such strike");
        }
    }

    private void openGame(Urn urn, int steps) {
        if (!isWithin(steps, 0, urn.mostSteps())) {
            throw new IllegalArgumentException("no such steps");
        }
        game.open(urn, steps);
    }

    private void openPath(Urn urn, int path) {
        int draws = drawsOf(path);
        if (draws == NONE) {
            throw new IllegalArgumentException("no path");
        }
        game.open(urn, draws);
    }

    private int sumOfUrns(int what) {
        int sum = 0;
        for (Urn urn : urns) {
            if (urn != null) {
                sum += what == 2 ? urn.countAll() : what == 3 ? urn.gain : urn.draws;
            }
        }
        return sum;
    }

    private double sumOfTilts() {
        double sum = 0.0;
        for (Urn urn : urns) {
            if (urn != null) {
                sum += urn.lean();
            }
        }
        return sum;
    }

    // ---- numbers and rows of numbers

    private static boolean isWithin(int number, int least, int most) {
        return number >= least && number <= most;
    }

    private static boolean isWeight(int number) {
        return isWithin(number, 0, MOST_WEIGHT);
    }

    private static int at(int[] row, int place) {
        return place >= 0 && place < row.length ? row[place] : 0;
    }

    private static long at(long[] row, int place) {
        return place >= 0 && place < row.length ? row[place] : 0;
    }

    private static boolean at(boolean[] row, int place) {
        return place >= 0 && place < row.length && row[place];
    }

    private static void put(int[] row, int place, int number) {
        if (place >= 0 && place < row.length) {
            row[place] = number;
        }
    }

    private static void put(long[] row, int place, long number) {
        if (place >= 0 && place < row.length) {
            row[place] = number;
        }
    }

    private static void put(boolean[] row, int place, boolean isSet) {
        if (place >= 0 && place < row.length) {
            row[place] = isSet;
        }
    }

    /** One part of a FRACTION in lowest terms; below may have either sign here. */
    private static long part(long above, long below, boolean isBelow) {
        long shared = sharedDivisor(Math.abs(above), Math.abs(below));
        if (below == 0 || shared == 0) {
            return isBelow ? 1 : 0;
        }
        long asked = (isBelow ? below : above) / shared;
        return below < 0 ? -asked : asked;
    }

    private static long sharedDivisor(long one, long other) {
        long greater = one;
        long less = other;
        // No two longs need more than 91 turns.
        for (int turn = 0; turn < 100 && less != 0; turn++) {
            long rest = greater % less;
            greater = less;
            less = rest;
        }
        return greater;
    }

    private static long power(int base, int exponent) {
        long product = 1;
        for (int turn = 0; turn < exponent; turn++) {
            product *= base;
        }
        return product;
    }

    private static long factorial(int number) {
        long product = 1;
        for (int factor = 2; factor <= number; factor++) {
            product *= factor;
        }
        return product;
    }

    private static double nearestWhole(double number) {
        int whole = (int) number;
        double rest = number - whole;
        boolean isUp = rest > 0.5 || rest == 0.5 && whole % 2 != 0;
        return isUp ? whole + 1 : whole;
    }

    // ---- paths

    /** How many DRAWS the PATH has; NONE, if it is no PATH of 0 to 4 DRAWS. */
    private static int drawsOf(int path) {
        int rest = path;
        int draws = 0;
        for (int turn = 0; turn < MOST_STEPS && rest != 0; turn++) {
            if (!isWithin(rest % 10, 1, COLOURS)) {
                return NONE;
            }
            rest /= 10;
            draws++;
        }
        return rest == 0 ? draws : NONE;
    }

    private static int nodeOf(int path) {
        int rest = path;
        int unit = 1;
        int node = 0;
        for (int turn = 0; turn < MOST_STEPS; turn++) {
            node += unit * (rest % 10);
            rest /= 10;
            unit *= COLOURS;
        }
        return node;
    }

    private static int timesIn(int path, int colour) {
        int rest = path;
        int times = 0;
        for (int turn = 0; turn < MOST_STEPS; turn++) {
            times += rest % 10 == colour + 1 ? 1 : 0;
            rest /= 10;
        }
        return times;
    }

    /** The first one of all nodes with so many DRAWS; the next ones up to the first one with one DRAW more have as many. */
    private static int firstWith(int draws) {
        int first = 0;
        for (int turn = 0; turn < draws; turn++) {
            first = COLOURS * first + 1;
        }
        return first;
    }

    private static int behind(int node, int colour) {
        return COLOURS * node + 1 + colour;
    }

    /** What is told of an URN, and what was drawn from it. */
    private static final class Urn {
        private final int growth;
        private final int[] counts = new int[COLOURS];
        private final int[] pays = new int[COLOURS];
        /** What a DRAW of each COLOUR adds of each one; without RULES it is -1 of itself. */
        private final int[] adds = new int[COLOURS * COLOURS];
        /** The COUNTS ahead of each DRAW: RULES may be others by the time it is taken back. */
        private final int[] countsBefore = new int[COLOURS * MOST_DRAWS];
        private int stopKind;
        private int stopNumber;
        private int gain;
        private int path;
        private int draws;

        private Urn(int first, int second, int third, int growth) {
            this.growth = growth;
            counts[0] = first;
            counts[1] = second;
            counts[2] = third;
            adds[0] = growth;
            adds[4] = growth;
            adds[8] = growth;
        }

        private int addOf(int drawn, int colour) {
            return at(adds, COLOURS * drawn + colour);
        }

        private int countAll() {
            return at(counts, 0) + at(counts, 1) + at(counts, 2);
        }

        private int mostSteps() {
            return growth < 0 ? Math.min(MOST_STEPS, countAll()) : MOST_STEPS;
        }

        private void take(int drawn) {
            for (int colour = 0; colour < COLOURS; colour++) {
                int count = at(counts, colour);
                put(countsBefore, COLOURS * draws + colour, count);
                put(counts, colour, count + addOf(drawn, colour));
            }
            draws++;
            path = path * 10 + drawn + 1;
            gain += at(pays, drawn);
        }

        private int takeBack() {
            int drawn = path % 10 - 1;
            draws--;
            path /= 10;
            gain -= at(pays, drawn);
            for (int colour = 0; colour < COLOURS; colour++) {
                put(counts, colour, at(countsBefore, COLOURS * draws + colour));
            }
            return drawn;
        }

        private boolean isStopAt(int yielded, int played) {
            switch (stopKind) {
                case 1:
                    return yielded >= stopNumber;
                case 2:
                    return yielded <= -stopNumber;
                case 3:
                    return isOften(played, 0) || isOften(played, 1) || isOften(played, 2);
                default:
                    return false;
            }
        }

        private boolean isOften(int played, int colour) {
            return timesIn(played, colour) >= stopNumber;
        }

        private double lean() {
            int lead = at(counts, 0) - at(counts, 2);
            double size = Math.abs(lead) / 4.0;
            size = size > 1.5 ? 1.5 : size;
            int sign = gain != 0 ? gain : lead;
            // 0 must not become -0.0.
            return sign < 0 && size > 0.0 ? -size : size;
        }
    }

    /**
     * All PATHS of a GAME, those of fewer DRAWS too. The empty one is node 0; the COLOURS 0 to 2 behind node i lead to
     * 3i + 1 to 3i + 3, so nodes go up by their DRAWS and then by their PATHS. As every DRAW adds the same in all, all
     * nodes with as many DRAWS have the same COUNTS together: a chance is a number of ways by a number of all ways.
     */
    private static final class Game {
        /** 0 for a PATH without a chance. */
        private final long[] ways = new long[NODES];
        private final int[] yields = new int[NODES];
        private final int[] paths = new int[NODES];
        private final int[] counts = new int[COLOURS * NODES];
        /** The WORTH of each node, times all ways behind it. */
        private final long[] worths = new long[NODES];
        private final boolean[] isOver = new boolean[NODES];
        private int steps;
        private int total;
        private int growth;

        private void open(Urn urn, int stepsAsked) {
            steps = Math.min(stepsAsked, MOST_STEPS);
            total = urn.countAll();
            growth = urn.growth;
            put(ways, 0, 1);
            for (int colour = 0; colour < COLOURS; colour++) {
                put(counts, colour, at(urn.counts, colour));
            }
            int inner = firstWith(steps);
            for (int node = 0; node < inner; node++) {
                for (int colour = 0; colour < COLOURS; colour++) {
                    grow(urn, node, colour);
                }
            }
        }

        private void grow(Urn urn, int node, int drawn) {
            int next = behind(node, drawn);
            put(ways, next, at(ways, node) * countAt(node, drawn));
            put(yields, next, at(yields, node) + at(urn.pays, drawn));
            put(paths, next, at(paths, node) * 10 + drawn + 1);
            for (int colour = 0; colour < COLOURS; colour++) {
                put(counts, COLOURS * next + colour, countAt(node, colour) + urn.addOf(drawn, colour));
            }
        }

        private int countAt(int node, int colour) {
            return at(counts, COLOURS * node + colour);
        }

        /** All ways that the DRAWS from there to the end can go, whichever the node with so many DRAWS. */
        private long waysFrom(int draws) {
            long product = 1;
            for (int done = draws; done < steps; done++) {
                product *= total + done * growth;
            }
            return product;
        }

        private long waysBetween(int leastYield, int mostYield) {
            long sum = 0;
            int end = firstWith(steps + 1);
            for (int node = firstWith(steps); node < end; node++) {
                sum += isWithin(at(yields, node), leastYield, mostYield) ? at(ways, node) : 0;
            }
            return sum;
        }

        private long sumOfPowers(int exponent) {
            return sumOfPowersWith(exponent, NONE, 0);
        }

        /** The sum of such powers of YIELD by ways; with a COLOUR of only those PATHS with that COLOUR so many times. */
        private long sumOfPowersWith(int exponent, int colour, int times) {
            long sum = 0;
            int end = firstWith(steps + 1);
            for (int node = firstWith(steps); node < end; node++) {
                if (colour == NONE || timesIn(at(paths, node), colour) == times) {
                    sum += at(ways, node) * power(at(yields, node), exponent);
                }
            }
            return sum;
        }

        private int pathOfUnfair(Urn urn) {
            int inner = firstWith(steps);
            for (int node = 0; node < inner; node++) {
                int pay = 0;
                for (int colour = 0; colour < COLOURS; colour++) {
                    pay += countAt(node, colour) * at(urn.pays, colour);
                }
                if (at(ways, node) > 0 && pay != 0) {
                    return at(paths, node);
                }
            }
            return NONE;
        }

        private int pathWithOrder() {
            int first = firstWith(steps);
            int end = firstWith(steps + 1);
            for (int node = first; node < end; node++) {
                if (at(ways, node) > 0 && hasOrder(node, node - first)) {
                    return at(paths, node);
                }
            }
            return NONE;
        }

        /** Whether some exchange of neighbours changes the chance; number has the COLOURS of the PATH as digits, three to a place. */
        private boolean hasOrder(int node, int number) {
            int rest = number;
            int unit = 1;
            for (int turn = 1; turn < steps; turn++) {
                int later = rest % COLOURS;
                rest /= COLOURS;
                int earlier = rest % COLOURS;
                int exchanged = node + (later - earlier) * (COLOURS - 1) * unit;
                if (at(ways, exchanged) != at(ways, node)) {
                    return true;
                }
                unit *= COLOURS;
            }
            return false;
        }

        /** The mean of DRAWS or YIELD when one stops, times all ways. */
        private long sumStopped(Urn urn, boolean isTime) {
            long sum = 0;
            for (int draws = 0; draws <= steps; draws++) {
                long rest = waysFrom(draws);
                int end = firstWith(draws + 1);
                for (int node = firstWith(draws); node < end; node++) {
                    boolean wasOver = node > 0 && at(isOver, (node - 1) / COLOURS);
                    boolean isNow = draws == steps || urn.isStopAt(at(yields, node), at(paths, node));
                    put(isOver, node, wasOver || isNow);
                    if (isNow && !wasOver) {
                        sum += at(ways, node) * rest * (isTime ? draws : at(yields, node));
                    }
                }
            }
            return sum;
        }

        /** Finds the WORTH of each node, the last ones first; returns at how many NODES it is as well as can be to stop. */
        private int weigh(int strike) {
            int end = firstWith(steps + 1);
            for (int node = firstWith(steps); node < end; node++) {
                put(worths, node, prizeAt(node, strike));
            }
            int stopping = 0;
            for (int draws = steps - 1; draws >= 0; draws--) {
                long rest = waysFrom(draws);
                int last = firstWith(draws + 1);
                for (int node = firstWith(draws); node < last; node++) {
                    long prize = prizeAt(node, strike) * rest;
                    long further = worthBehind(node);
                    put(worths, node, Math.max(prize, further));
                    stopping += at(ways, node) > 0 && prize >= further ? 1 : 0;
                }
            }
            return stopping;
        }

        private long prizeAt(int node, int strike) {
            return Math.max(at(yields, node) - strike, 0);
        }

        private long worthBehind(int node) {
            long sum = 0;
            for (int colour = 0; colour < COLOURS; colour++) {
                sum += countAt(node, colour) * at(worths, behind(node, colour));
            }
            return sum;
        }
    }

    /** A ROW of WEIGHTS. */
    private static final class Row {
        private final int[] weights = new int[PLACES];
        private final int sum;

        private Row(int a, int b, int c, int d, int e) {
            weights[0] = a;
            weights[1] = b;
            weights[2] = c;
            weights[3] = d;
            weights[4] = e;
            sum = a + b + c + d + e;
        }
    }

    /** What both sides of a TABLE have left. */
    private static final class Sides {
        private final int[] left = new int[PLACES];
        private final int[] itsLeft = new int[PLACES];

        private void lay(Row first, Row second) {
            for (int place = 0; place < PLACES; place++) {
                put(left, place, at(first.weights, place) * second.sum);
                put(itsLeft, place, at(second.weights, place) * first.sum);
            }
        }

        private int move(int place, int its) {
            int both = Math.min(at(left, place), at(itsLeft, its));
            put(left, place, at(left, place) - both);
            put(itsLeft, its, at(itsLeft, its) - both);
            return both;
        }

        private int stay(int askedPlace, int askedIts) {
            int found = 0;
            for (int place = 0; place < PLACES; place++) {
                int both = move(place, place);
                found += place == askedPlace && place == askedIts ? both : 0;
            }
            return found;
        }

        private int step(int askedPlace, int askedIts) {
            int place = 0;
            int its = 0;
            int found = 0;
            // Each turn goes on along one side.
            for (int turn = 0; turn < 2 * PLACES; turn++) {
                int both = move(place, its);
                found += place == askedPlace && its == askedIts ? both : 0;
                if (at(left, place) == 0) {
                    place++;
                } else {
                    its++;
                }
            }
            return found;
        }
    }

    /**
     * Shuffles of a DECK, looked at the other way round: there some card is put on the top each time. That gives each
     * order the chance that the contrary order of the places has here, so the differences of all are the same.
     */
    private static final class Deck {
        /** Behind place j: how many runs of choices leave j given cards on the top, in a given order, as those chosen. */
        private final long[] runs = new long[MOST_CARDS + 1];

        private void shuffle(int cards, int times) {
            for (int chosen = 0; chosen <= cards; chosen++) {
                put(runs, chosen, chosen == 0 ? 1 : 0);
            }
            for (int turn = 0; turn < times; turn++) {
                for (int chosen = cards; chosen > 0; chosen--) {
                    put(runs, chosen, at(runs, chosen) * chosen + at(runs, chosen - 1));
                }
                put(runs, 0, 0);
            }
        }

        /** Orders with as long an end that goes up are reached as often: by all runs that chose at least the cards ahead of it. */
        private long sumOfDifferences(int cards, long orders, long shuffles) {
            long sum = 0;
            long reached = at(runs, cards);
            for (int end = 1; end <= cards; end++) {
                reached += at(runs, cards - end);
                long alike = ordersWithEnd(cards, end) - ordersWithEnd(cards, end + 1);
                sum += alike * Math.abs(reached * orders - shuffles);
            }
            return sum;
        }

        /** How many orders there are whose last ones, so many or more, go up. */
        private static long ordersWithEnd(int cards, int end) {
            long product = end > cards ? 0 : 1;
            for (int factor = end + 1; factor <= cards; factor++) {
                product *= factor;
            }
            return product;
        }
    }
}
