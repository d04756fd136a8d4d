import java.math.BigInteger;

/** The document's draws, reckoned with large numbers. */
final class Draws {
    private static final BigInteger ROUND = BigInteger.ONE.shiftLeft(64);
    private BigInteger x;

    Draws(long seed) {
        x = BigInteger.valueOf(seed).mod(ROUND);
    }

    int of(int j) {
        x = x.multiply(new BigInteger("6364136223846793005")).add(new BigInteger("1442695040888963407")).mod(ROUND);
        return x.shiftRight(33).mod(BigInteger.valueOf(j)).intValue();
    }
}
