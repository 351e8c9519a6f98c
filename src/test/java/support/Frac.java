import java.math.BigInteger;

/** A fraction in lowest terms, of any size. */
final class Frac {
    static final Frac ZERO = of(0, 1);
    static final Frac ONE = of(1, 1);

    final BigInteger up;
    final BigInteger down;

    Frac(BigInteger up, BigInteger down) {
        BigInteger common = up.gcd(down);
        if (down.signum() < 0) {
            common = common.negate();
        }
        this.up = up.divide(common);
        this.down = down.divide(common);
    }

    static Frac of(long up, long down) {
        return new Frac(BigInteger.valueOf(up), BigInteger.valueOf(down));
    }

    Frac minus(Frac other) {
        return new Frac(up.multiply(other.down).subtract(other.up.multiply(down)), down.multiply(other.down));
    }

    Frac by(Frac other) {
        return new Frac(up.multiply(other.up), down.multiply(other.down));
    }

    Frac over(Frac other) {
        return new Frac(up.multiply(other.down), down.multiply(other.up));
    }

    Frac over(long other) {
        return over(of(other, 1));
    }

    int sign() {
        return up.signum();
    }

    boolean isLess(Frac other) {
        return minus(other).sign() < 0;
    }

    @Override
    public boolean equals(Object other) {
        return other instanceof Frac && up.equals(((Frac) other).up) && down.equals(((Frac) other).down);
    }

    @Override
    public int hashCode() {
        return up.hashCode() ^ down.hashCode();
    }
}
