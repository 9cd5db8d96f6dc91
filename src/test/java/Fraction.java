import java.math.BigInteger;

/** An exact number, so that the oracle shares no arithmetic with the program. */
final class Fraction implements Comparable<Fraction> {
    static final Fraction ZERO = of(0, 1), ONE = of(1, 1);
    private final BigInteger top;
    private final BigInteger bottom;

    private Fraction(BigInteger top, BigInteger bottom) {
        BigInteger by = top.gcd(bottom);
        this.top = top.divide(by);
        this.bottom = bottom.divide(by);
    }

    static Fraction of(long top, long bottom) {
        return new Fraction(BigInteger.valueOf(top), BigInteger.valueOf(bottom));
    }

    Fraction plus(Fraction o) {
        return new Fraction(top.multiply(o.bottom).add(o.top.multiply(bottom)), bottom.multiply(o.bottom));
    }

    Fraction minus(Fraction o) {
        return plus(new Fraction(o.top.negate(), o.bottom));
    }

    Fraction times(Fraction o) {
        return new Fraction(top.multiply(o.top), bottom.multiply(o.bottom));
    }

    /** So many times this, cut toward 0. */
    int cut(int factor) {
        return top.multiply(BigInteger.valueOf(factor)).divide(bottom).intValueExact();
    }

    @Override
    public int compareTo(Fraction o) {
        return top.multiply(o.bottom).compareTo(o.top.multiply(bottom));
    }
}
