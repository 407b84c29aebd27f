import java.math.BigInteger;

/** An exact fraction in lowest terms. */
final class Ratio implements Comparable<Ratio> {
    static final Ratio ZERO = of(0, 1);
    static final Ratio ONE = of(1, 1);

    final BigInteger top;
    final BigInteger bottom;

    private Ratio(BigInteger top, BigInteger bottom) {
        BigInteger shared = top.gcd(bottom);
        this.top = top.divide(shared);
        this.bottom = bottom.divide(shared);
    }

    static Ratio of(long top, long bottom) {
        return new Ratio(BigInteger.valueOf(top), BigInteger.valueOf(bottom));
    }

    Ratio plus(Ratio other) {
        return new Ratio(top.multiply(other.bottom).add(other.top.multiply(bottom)), bottom.multiply(other.bottom));
    }

    Ratio times(Ratio other) {
        return new Ratio(top.multiply(other.top), bottom.multiply(other.bottom));
    }

    Ratio times(long n) {
        return times(of(n, 1));
    }

    @Override
    public int compareTo(Ratio other) {
        return top.multiply(other.bottom).compareTo(other.top.multiply(bottom));
    }

    long part(int which) {
        return (which == 0 ? top : bottom).longValueExact();
    }
}
