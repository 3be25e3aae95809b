import java.util.ArrayList;
import java.util.HashMap;
import java.util.List;
import java.util.Map;

/**
 * The document once more, read word by word and worked out in another way than Urnwright does: by lists, maps and
 * fractions of any size, by going through every path, every order of a deck and every equation of a walk.
 */
final class Court {
    static final class Urn {
        List<Integer> counts = new ArrayList<>();
        int growth;
        int[][] rules = new int[3][3];
        int[] pays = new int[3];
        int gain;
        int kind;
        int number;
        List<Integer> path = new ArrayList<>();
        List<List<Integer>> earlier = new ArrayList<>();

        int all() {
            return counts.get(0) + counts.get(1) + counts.get(2);
        }

        List<Integer> after(List<Integer> before, int drawn) {
            List<Integer> after = new ArrayList<>(before);
            for (int c = 0; c < 3; c++) {
                if (growth >= 0) {
                    after.set(c, after.get(c) + rules[drawn][c]);
                } else if (c == drawn) {
                    after.set(c, after.get(c) - 1);
                }
            }
            return after;
        }
    }

    /** A PATH of a GAME so far. */
    record At(List<Integer> path, List<Integer> counts, Fraction chance, int sum) {
    }

    private final List<Urn> urns = new ArrayList<>();
    private final List<int[]> rows = new ArrayList<>();
    private int knocks = 0;

    static void argue(boolean isGood) {
        if (!isGood) {
            throw new IllegalArgumentException();
        }
    }

    static void state(boolean isGood) {
        if (!isGood) {
            throw new IllegalStateException();
        }
    }

    static void index(int number, int end) {
        if (number < 0 || number >= end) {
            throw new IndexOutOfBoundsException();
        }
    }

    Urn urnAt(int urn) {
        index(urn, urns.size());
        return urns.get(urn);
    }

    public int urn(int first, int second, int third, int growth) {
        for (int count : new int[] {first, second, third}) {
            argue(count >= 0 && count <= 5);
        }
        argue(first > 0 || second > 0 || third > 0);
        argue(growth >= -1 && growth <= 3);
        state(urns.size() < 4);
        Urn u = new Urn();
        u.counts.addAll(List.of(first, second, third));
        u.growth = growth;
        for (int c = 0; c < 3; c++) {
            u.rules[c][c] = Math.max(growth, 0);
        }
        urns.add(u);
        return urns.size() - 1;
    }

    public int rule(int urn, int colour, int first, int second, int third) {
        Urn u = urnAt(urn);
        index(colour, 3);
        argue(first >= 0 && second >= 0 && third >= 0);
        argue(0L + first + second + third == u.growth);
        int before = u.rules[colour][colour];
        u.rules[colour] = new int[] {first, second, third};
        return before;
    }

    public int pay(int urn, int colour, int pay) {
        Urn u = urnAt(urn);
        index(colour, 3);
        argue(pay >= -5 && pay <= 5);
        int before = u.pays[colour];
        u.pays[colour] = pay;
        return before;
    }

    public int stop(int urn, int kind, int number) {
        Urn u = urnAt(urn);
        argue(kind >= 0 && kind <= 3 && number >= 1 && number <= 20);
        int before = u.kind;
        u.kind = kind;
        u.number = number;
        return before;
    }

    public int draw(int urn, int colour) {
        Urn u = urnAt(urn);
        index(colour, 3);
        state(u.counts.get(colour) > 0);
        state(u.path.size() < 6);
        u.earlier.add(u.counts);
        u.counts = u.after(u.counts, colour);
        u.path.add(colour);
        u.gain += u.pays[colour];
        return u.gain;
    }

    public int back(int urn) {
        Urn u = urnAt(urn);
        if (u.path.isEmpty()) {
            knocks++;
            return -1;
        }
        int colour = u.path.remove(u.path.size() - 1);
        u.counts = u.earlier.remove(u.earlier.size() - 1);
        u.gain -= u.pays[colour];
        return colour;
    }

    public int row(int a, int b, int c, int d, int e) {
        int sum = 0;
        for (int weight : new int[] {a, b, c, d, e}) {
            argue(weight >= 0 && weight <= 9);
            sum += weight;
        }
        argue(sum > 0);
        state(rows.size() < 4);
        rows.add(new int[] {a, b, c, d, e});
        return rows.size() - 1;
    }

    static List<Integer> drawsOf(int path) {
        String digits = path == 0 ? "" : "" + path;
        argue(digits.matches("[123]{0,4}"));
        List<Integer> draws = new ArrayList<>();
        for (char digit : digits.toCharArray()) {
            draws.add(digit - '1');
        }
        return draws;
    }

    static int numberOf(List<Integer> path) {
        int number = 0;
        for (int colour : path) {
            number = 10 * number + colour + 1;
        }
        return number;
    }

    static int often(List<Integer> path, int colour) {
        int times = 0;
        for (int drawn : path) {
            times += drawn == colour ? 1 : 0;
        }
        return times;
    }

    Fraction chanceOf(Urn u, List<Integer> draws) {
        Fraction chance = Fraction.ONE;
        List<Integer> counts = u.counts;
        for (int colour : draws) {
            int all = counts.get(0) + counts.get(1) + counts.get(2);
            if (all == 0 || counts.get(colour) == 0) {
                return Fraction.ZERO;
            }
            chance = chance.times(Fraction.of(counts.get(colour), all));
            counts = u.after(counts, colour);
        }
        return chance;
    }

    public long chance(int urn, int path, boolean isBelow) {
        Urn u = urnAt(urn);
        return chanceOf(u, drawsOf(path)).part(isBelow);
    }

    static At next(Urn u, At at, int colour) {
        int all = at.counts.get(0) + at.counts.get(1) + at.counts.get(2);
        List<Integer> path = new ArrayList<>(at.path);
        path.add(colour);
        return new At(path, u.after(at.counts, colour), at.chance.times(Fraction.of(at.counts.get(colour), all)), at.sum + u.pays[colour]);
    }

    /** All PATHS with so many DRAWS and a chance, the smallest first. */
    static List<At> level(Urn u, int draws) {
        List<At> level = new ArrayList<>();
        level.add(new At(List.of(), u.counts, Fraction.ONE, 0));
        for (int i = 0; i < draws; i++) {
            List<At> longer = new ArrayList<>();
            for (At at : level) {
                for (int c = 0; c < 3; c++) {
                    if (at.counts.get(c) > 0) {
                        longer.add(next(u, at, c));
                    }
                }
            }
            level = longer;
        }
        return level;
    }

    Urn game(int urn, int steps) {
        Urn u = urnAt(urn);
        argue(steps >= 0 && steps <= most(u));
        return u;
    }

    static int most(Urn u) {
        return u.growth == -1 ? Math.min(4, u.all()) : 4;
    }

    public long gains(int urn, int steps, int gain, boolean isBelow) {
        Fraction sum = Fraction.ZERO;
        for (At at : level(game(urn, steps), steps)) {
            sum = at.sum == gain ? sum.plus(at.chance) : sum;
        }
        return sum.part(isBelow);
    }

    static Fraction whole(long number) {
        return Fraction.of(number, 1);
    }

    static Fraction meanOf(Urn u, int steps, int exponent) {
        Fraction sum = Fraction.ZERO;
        for (At at : level(u, steps)) {
            sum = sum.plus(at.chance.times(whole(exponent == 1 ? at.sum : at.sum * at.sum)));
        }
        return sum;
    }

    public long mean(int urn, int steps, boolean isSpread, boolean isBelow) {
        Urn u = game(urn, steps);
        Fraction mean = meanOf(u, steps, 1);
        return (isSpread ? meanOf(u, steps, 2).less(mean.times(mean)) : mean).part(isBelow);
    }

    public int unfair(int urn, int steps) {
        Urn u = game(urn, steps);
        for (int draws = 0; draws < steps; draws++) {
            for (At at : level(u, draws)) {
                Fraction mean = Fraction.ZERO;
                for (int c = 0; c < 3; c++) {
                    mean = mean.plus(chanceOf(at.counts, c).times(whole(u.pays[c])));
                }
                if (mean.above().signum() != 0) {
                    return numberOf(at.path);
                }
            }
        }
        return -1;
    }

    static Fraction chanceOf(List<Integer> counts, int colour) {
        return Fraction.of(counts.get(colour), counts.get(0) + counts.get(1) + counts.get(2));
    }

    public int ordered(int urn, int steps) {
        Urn u = game(urn, steps);
        for (At at : level(u, steps)) {
            for (int i = 0; i + 1 < steps; i++) {
                List<Integer> other = new ArrayList<>(at.path);
                other.set(i, at.path.get(i + 1));
                other.set(i + 1, at.path.get(i));
                if (!chanceOf(u, other).equals(at.chance)) {
                    return numberOf(at.path);
                }
            }
        }
        return -1;
    }

    public long given(int urn, int steps, int colour, int times, boolean isBelow) {
        urnAt(urn);
        index(colour, 3);
        Urn u = game(urn, steps);
        argue(times >= 0 && times <= steps);
        Fraction sum = Fraction.ZERO;
        Fraction chance = Fraction.ZERO;
        for (At at : level(u, steps)) {
            if (often(at.path, colour) == times) {
                sum = sum.plus(at.chance.times(whole(at.sum)));
                chance = chance.plus(at.chance);
            }
        }
        state(chance.above().signum() != 0);
        return sum.by(chance).part(isBelow);
    }

    static boolean holds(Urn u, At at) {
        boolean isOften = false;
        for (int c = 0; c < 3; c++) {
            isOften |= often(at.path, c) >= u.number;
        }
        return u.kind == 1 && at.sum >= u.number || u.kind == 2 && at.sum <= -u.number || u.kind == 3 && isOften;
    }

    static Fraction stop(Urn u, At at, int steps, boolean isTime) {
        if (at.path.size() == steps || holds(u, at)) {
            return at.chance.times(whole(isTime ? at.path.size() : at.sum));
        }
        Fraction sum = Fraction.ZERO;
        for (int c = 0; c < 3; c++) {
            sum = at.counts.get(c) > 0 ? sum.plus(stop(u, next(u, at, c), steps, isTime)) : sum;
        }
        return sum;
    }

    public long stopped(int urn, int steps, boolean isTime, boolean isBelow) {
        Urn u = game(urn, steps);
        return stop(u, level(u, 0).get(0), steps, isTime).part(isBelow);
    }

    static Fraction prize(At at, int strike) {
        return whole(at.sum - strike > 0 ? at.sum - strike : 0);
    }

    static Fraction worthOf(Urn u, At at, int steps, int strike) {
        return at.path.size() == steps ? prize(at, strike) : prize(at, strike).greater(worthBehind(u, at, steps, strike));
    }

    static Fraction worthBehind(Urn u, At at, int steps, int strike) {
        Fraction sum = Fraction.ZERO;
        for (int c = 0; c < 3; c++) {
            if (at.counts.get(c) > 0) {
                sum = sum.plus(chanceOf(at.counts, c).times(worthOf(u, next(u, at, c), steps, strike)));
            }
        }
        return sum;
    }

    public long worth(int urn, int steps, int strike, boolean isBelow) {
        Urn u = game(urn, steps);
        argue(strike >= -9 && strike <= 9);
        return worthOf(u, level(u, 0).get(0), steps, strike).part(isBelow);
    }

    public int stops(int urn, int steps, int strike) {
        Urn u = game(urn, steps);
        argue(strike >= -9 && strike <= 9);
        int stops = 0;
        for (int draws = 0; draws < steps; draws++) {
            for (At at : level(u, draws)) {
                stops += prize(at, strike).isUnder(worthBehind(u, at, steps, strike)) ? 0 : 1;
            }
        }
        return stops;
    }

    public long slack(int urn, int steps, int limit, boolean isBelow) {
        Urn u = game(urn, steps);
        argue(limit >= 1 && limit <= 20);
        Fraction bound = meanOf(u, steps, 2).by(whole(limit * limit));
        bound = Fraction.ONE.isUnder(bound) ? Fraction.ONE : bound;
        for (At at : level(u, steps)) {
            bound = Math.abs(at.sum) >= limit ? bound.less(at.chance) : bound;
        }
        return bound.part(isBelow);
    }

    /** Puts x at 0 of the walk to 0 and at 1 to a question mark s, goes up by the equations as a + b s, and asks n for s. */
    public long walk(int from, int n, int up, int down, boolean isWait, boolean isBelow) {
        argue(n >= 2 && n <= 8 && from >= 0 && from <= n && up >= 1 && up <= 4 && down >= 1 && down <= 4);
        Fraction p = Fraction.of(up, up + down);
        Fraction q = Fraction.of(down, up + down);
        Fraction[] a = new Fraction[n + 1];
        Fraction[] b = new Fraction[n + 1];
        a[0] = Fraction.ZERO;
        b[0] = Fraction.ZERO;
        a[1] = Fraction.ZERO;
        b[1] = Fraction.ONE;
        for (int k = 1; k < n; k++) {
            Fraction one = isWait ? Fraction.ONE : Fraction.ZERO;
            a[k + 1] = a[k].less(one).less(q.times(a[k - 1])).by(p);
            b[k + 1] = b[k].less(q.times(b[k - 1])).by(p);
        }
        Fraction s = (isWait ? Fraction.ZERO : Fraction.ONE).less(a[n]).by(b[n]);
        return a[from].plus(b[from].times(s)).part(isBelow);
    }

    int[] rowAt(int row) {
        index(row, rows.size());
        return rows.get(row);
    }

    static int sum(int[] row) {
        int sum = 0;
        for (int weight : row) {
            sum += weight;
        }
        return sum;
    }

    public long distance(int one, int other, boolean isBelow) {
        int[] r = rowAt(one);
        int[] s = rowAt(other);
        Fraction sum = Fraction.ZERO;
        for (int i = 0; i < 5; i++) {
            sum = sum.plus(Fraction.of(r[i], sum(r)).less(Fraction.of(s[i], sum(s))).size());
        }
        return sum.times(Fraction.of(1, 2)).part(isBelow);
    }

    /** By STEPS, each number of a TABLE is how much two stretches along both sides have in common. */
    static int shared(int[] left, int[] its, int i, int j) {
        int from = 0;
        for (int k = 0; k < i; k++) {
            from += left[k];
        }
        int itsFrom = 0;
        for (int k = 0; k < j; k++) {
            itsFrom += its[k];
        }
        return Math.max(0, Math.min(from + left[i], itsFrom + its[j]) - Math.max(from, itsFrom));
    }

    public int table(int one, int other, int place, int its, boolean isStaying) {
        int[] r = rowAt(one).clone();
        int[] s = rowAt(other).clone();
        index(place, 5);
        index(its, 5);
        int first = sum(r);
        int second = sum(s);
        int stays = 0;
        for (int k = 0; k < 5; k++) {
            r[k] *= second;
            s[k] *= first;
            int both = isStaying ? Math.min(r[k], s[k]) : 0;
            r[k] -= both;
            s[k] -= both;
            stays += k == place && k == its ? both : 0;
        }
        return stays + shared(r, s, place, its);
    }

    public boolean isAbove(int one, int other) {
        int[] r = rowAt(one);
        int[] s = rowAt(other);
        for (int i = 0; i < 5; i++) {
            Fraction mine = Fraction.ZERO;
            Fraction theirs = Fraction.ZERO;
            for (int j = i; j < 5; j++) {
                mine = mine.plus(Fraction.of(r[j], sum(r)));
                theirs = theirs.plus(Fraction.of(s[j], sum(s)));
            }
            if (mine.isUnder(theirs)) {
                return false;
            }
        }
        return true;
    }

    public long far(int cards, int times, boolean isBelow) {
        argue(cards >= 1 && cards <= 5 && times >= 0 && times <= 7);
        Map<String, Fraction> chances = new HashMap<>();
        chances.put("abcde".substring(0, cards), Fraction.ONE);
        for (int i = 0; i < times; i++) {
            Map<String, Fraction> then = new HashMap<>();
            for (Map.Entry<String, Fraction> order : chances.entrySet()) {
                for (int to = 0; to < cards; to++) {
                    StringBuilder deck = new StringBuilder(order.getKey());
                    char top = deck.charAt(0);
                    deck.deleteCharAt(0).insert(to, top);
                    then.merge(deck.toString(), order.getValue().times(Fraction.of(1, cards)), Fraction::plus);
                }
            }
            chances = then;
        }
        int orders = 1;
        for (int i = 2; i <= cards; i++) {
            orders *= i;
        }
        Fraction even = Fraction.of(1, orders);
        Fraction sum = even.times(whole(orders - chances.size()));
        for (Fraction chance : chances.values()) {
            sum = sum.plus(chance.less(even).size());
        }
        return sum.times(Fraction.of(1, 2)).part(isBelow);
    }

    public int ofUrn(int urn, int what) {
        Urn u = urnAt(urn);
        argue(what >= 0 && what <= 9);
        return List.of(u.counts.get(0), u.counts.get(1), u.counts.get(2), u.growth, u.gain, numberOf(u.path), u.kind,
                u.pays[0], u.pays[1], u.pays[2]).get(what);
    }

    public String text(int urn) {
        Urn u = urnAt(urn);
        return u.counts.get(0) + "-" + u.counts.get(1) + "-" + u.counts.get(2) + "|" + u.gain;
    }

    public double tilt(int urn) {
        Urn u = urnAt(urn);
        int quarters = Math.max(-6, Math.min(6, u.counts.get(0) - u.counts.get(2)));
        if (u.gain != 0) {
            quarters = Math.abs(quarters) * Integer.signum(u.gain);
        }
        return quarters * 0.25;
    }

    public double percent(int urn, int colour) {
        Urn u = urnAt(urn);
        index(colour, 3);
        return u.all() == 0 ? 0.0 : Math.rint(100.0 * u.counts.get(colour) / u.all());
    }

    public int many(int what) {
        argue(what >= 0 && what <= 6);
        int counts = 0;
        int gains = 0;
        int draws = 0;
        double tilts = 0;
        for (int i = 0; i < urns.size(); i++) {
            counts += urns.get(i).all();
            gains += urns.get(i).gain;
            draws += urns.get(i).path.size();
            tilts += tilt(i);
        }
        return List.of(urns.size(), rows.size(), counts, gains, draws, knocks, (int) tilts).get(what);
    }

    public int wouldGain(int urn, int path) {
        Urn u = urnAt(urn);
        List<Integer> draws = drawsOf(path);
        state(chanceOf(u, draws).above().signum() != 0);
        int gain = u.gain;
        for (int colour : draws) {
            gain += u.pays[colour];
        }
        return gain;
    }

    public long digest() {
        List<Long> numbers = new ArrayList<>();
        for (int what = 0; what <= 6; what++) {
            numbers.add((long) many(what));
        }
        for (int u = 0; u < urns.size(); u++) {
            for (int what = 0; what <= 9; what++) {
                numbers.add((long) ofUrn(u, what));
            }
            int steps = Math.min(3, most(urns.get(u)));
            for (boolean isSpread : new boolean[] {false, true}) {
                numbers.add(mean(u, steps, isSpread, false));
                numbers.add(mean(u, steps, isSpread, true));
            }
            numbers.add((long) unfair(u, steps));
            numbers.add((long) ordered(u, steps));
            for (boolean isTime : new boolean[] {false, true}) {
                numbers.add(stopped(u, steps, isTime, false));
                numbers.add(stopped(u, steps, isTime, true));
            }
            numbers.add(worth(u, steps, 1, false));
            numbers.add(worth(u, steps, 1, true));
        }
        for (int one = 0; one < rows.size(); one++) {
            for (int other = 0; other < rows.size(); other++) {
                numbers.add(distance(one, other, false));
                numbers.add(distance(one, other, true));
            }
        }
        long d = 58240;
        for (long v : numbers) {
            d = d * 31 + v;
        }
        return d;
    }
}
