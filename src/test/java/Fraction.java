import java.math.BigInteger;

/** An exact fraction in lowest terms, for the oracle. */
final class Fraction {
    static final Fraction ZERO = new Fraction(BigInteger.ZERO, BigInteger.ONE);
    static final Fraction ONE = new Fraction(BigInteger.ONE, BigInteger.ONE);

    final BigInteger upper;
    final BigInteger lower;

    Fraction(BigInteger upper, BigInteger lower) {
        BigInteger divisor = upper.gcd(lower);
        if (lower.signum() < 0) {
            divisor = divisor.negate();
        }
        this.upper = upper.divide(divisor);
        this.lower = lower.divide(divisor);
    }

    static Fraction of(long number) {
        return new Fraction(BigInteger.valueOf(number), BigInteger.ONE);
    }

    Fraction plus(Fraction other) {
        return new Fraction(upper.multiply(other.lower).add(other.upper.multiply(lower)), lower.multiply(other.lower));
    }

    Fraction minus(Fraction other) {
        return plus(new Fraction(other.upper.negate(), other.lower));
    }

    Fraction times(Fraction other) {
        return new Fraction(upper.multiply(other.upper), lower.multiply(other.lower));
    }

    Fraction over(Fraction other) {
        return new Fraction(upper.multiply(other.lower), lower.multiply(other.upper));
    }

    int sign() {
        return upper.signum();
    }
}
