import java.math.BigInteger;

/** An exact fraction in least terms that never changes. */
final class Ratio implements Comparable<Ratio> {
    static final Ratio ZERO = of(0, 1);
    static final Ratio ONE = of(1, 1);

    final BigInteger above;
    final BigInteger below;

    private Ratio(BigInteger above, BigInteger below) {
        BigInteger common = above.gcd(below);
        BigInteger divisor = below.signum() < 0 ? common.negate() : common;
        this.above = above.divide(divisor);
        this.below = below.divide(divisor);
    }

    static Ratio of(long above, long below) {
        return new Ratio(BigInteger.valueOf(above), BigInteger.valueOf(below));
    }

    Ratio plus(Ratio x) {
        return new Ratio(above.multiply(x.below).add(x.above.multiply(below)), below.multiply(x.below));
    }

    Ratio minus(Ratio x) {
        return plus(new Ratio(x.above.negate(), x.below));
    }

    Ratio times(Ratio x) {
        return new Ratio(above.multiply(x.above), below.multiply(x.below));
    }

    Ratio by(Ratio x) {
        return new Ratio(above.multiply(x.below), below.multiply(x.above));
    }

    int signum() {
        return above.signum();
    }

    @Override
    public int compareTo(Ratio x) {
        return above.multiply(x.below).compareTo(x.above.multiply(below));
    }
}
