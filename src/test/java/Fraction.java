import java.math.BigInteger;

/** An exact fraction in lowest terms, of any size. */
record Fraction(BigInteger above, BigInteger below) {
    static final Fraction ZERO = of(0, 1);
    static final Fraction ONE = of(1, 1);

    static Fraction of(long above, long below) {
        return of(BigInteger.valueOf(above), BigInteger.valueOf(below));
    }

    static Fraction of(BigInteger above, BigInteger below) {
        BigInteger shared = above.gcd(below);
        BigInteger sign = BigInteger.valueOf(below.signum());
        return new Fraction(above.divide(shared).multiply(sign), below.divide(shared).multiply(sign));
    }

    Fraction plus(Fraction o) {
        return of(above.multiply(o.below).add(o.above.multiply(below)), below.multiply(o.below));
    }

    Fraction times(Fraction o) {
        return of(above.multiply(o.above), below.multiply(o.below));
    }

    Fraction by(Fraction o) {
        return of(above.multiply(o.below), below.multiply(o.above));
    }

    Fraction less(Fraction o) {
        return plus(o.times(of(-1, 1)));
    }

    Fraction size() {
        return of(above.abs(), below);
    }

    boolean isUnder(Fraction o) {
        return above.multiply(o.below).compareTo(o.above.multiply(below)) < 0;
    }

    Fraction greater(Fraction o) {
        return isUnder(o) ? o : this;
    }

    long part(boolean isBelow) {
        return (isBelow ? below : above).longValueExact();
    }
}
