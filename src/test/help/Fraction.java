import java.math.BigInteger;

/** A number over another one above 0, without a common divisor. */
final class Fraction {
    static final Fraction ZERO = new Fraction(BigInteger.ZERO, BigInteger.ONE);
    static final Fraction ONE = new Fraction(BigInteger.ONE, BigInteger.ONE);
    final BigInteger over;
    final BigInteger under;

    Fraction(BigInteger over, BigInteger under) {
        BigInteger common = over.gcd(under);
        BigInteger divisor = under.signum() < 0 ? common.negate() : common;
        this.over = over.divide(divisor);
        this.under = under.divide(divisor);
    }

    Fraction minus(Fraction f) {
        return new Fraction(over.multiply(f.under).subtract(f.over.multiply(under)), under.multiply(f.under));
    }

    Fraction times(Fraction f) {
        return new Fraction(over.multiply(f.over), under.multiply(f.under));
    }

    Fraction by(Fraction f) {
        return new Fraction(over.multiply(f.under), under.multiply(f.over));
    }

    boolean isZero() {
        return over.signum() == 0;
    }

    boolean isOne() {
        return over.equals(under);
    }
}
