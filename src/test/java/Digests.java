import java.math.BigInteger;
import java.util.ArrayList;
import java.util.List;

/** The checksum once more, of the other answers of an object, in the order that the document tells. */
final class Digests {
    private Digests() {
    }

    /** What digest() has to be, by steps that each URN is to be asked with. */
    static long due(Urnwright x, int... steps) {
        return unwrapped(x, steps).longValue();
    }

    /** The same number before it wraps around. */
    static BigInteger unwrapped(Urnwright x, int... steps) {
        BigInteger d = BigInteger.valueOf(58240);
        for (long v : numbers(x, steps)) {
            d = d.multiply(BigInteger.valueOf(31)).add(BigInteger.valueOf(v));
        }
        return d;
    }

    private static List<Long> numbers(Urnwright x, int... steps) {
        List<Long> numbers = new ArrayList<>();
        for (int what = 0; what <= 6; what++) {
            numbers.add((long) x.many(what));
        }
        for (int urn = 0; urn < steps.length; urn++) {
            int s = steps[urn];
            for (int what = 0; what <= 9; what++) {
                numbers.add((long) x.ofUrn(urn, what));
            }
            numbers.addAll(List.of(x.mean(urn, s, false, false), x.mean(urn, s, false, true), x.mean(urn, s, true, false), x.mean(urn, s, true, true)));
            numbers.addAll(List.of((long) x.unfair(urn, s), (long) x.ordered(urn, s)));
            numbers.addAll(List.of(x.stopped(urn, s, false, false), x.stopped(urn, s, false, true)));
            numbers.addAll(List.of(x.stopped(urn, s, true, false), x.stopped(urn, s, true, true)));
            numbers.addAll(List.of(x.worth(urn, s, 1, false), x.worth(urn, s, 1, true)));
        }
        for (int one = 0; one < x.many(1); one++) {
            for (int other = 0; other < x.many(1); other++) {
                numbers.addAll(List.of(x.distance(one, other, false), x.distance(one, other, true)));
            }
        }
        return numbers;
    }
}
