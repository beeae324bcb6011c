import java.math.BigInteger;

/** An exact fraction in lowest terms, its denominator above 0, without a bound. */
record Fraction(BigInteger top, BigInteger bottom) {
    static final Fraction ZERO = of(0);

    Fraction {
        if (bottom.signum() < 0) {
            top = top.negate();
            bottom = bottom.negate();
        }
        BigInteger common = top.gcd(bottom);
        top = top.divide(common);
        bottom = bottom.divide(common);
    }

    static Fraction of(long whole) {
        return new Fraction(BigInteger.valueOf(whole), BigInteger.ONE);
    }

    Fraction plus(Fraction other) {
        return new Fraction(top.multiply(other.bottom).add(other.top.multiply(bottom)), bottom.multiply(other.bottom));
    }

    Fraction minus(Fraction other) {
        return plus(new Fraction(other.top.negate(), other.bottom));
    }

    Fraction times(Fraction other) {
        return new Fraction(top.multiply(other.top), bottom.multiply(other.bottom));
    }

    Fraction over(Fraction other) {
        return new Fraction(top.multiply(other.bottom), bottom.multiply(other.top));
    }

    Fraction size() {
        return new Fraction(top.abs(), bottom);
    }

    boolean isZero() {
        return top.signum() == 0;
    }

    boolean isAbove(Fraction other) {
        return minus(other).top.signum() > 0;
    }
}
