import java.math.BigInteger;
import java.util.List;

/** The sum of digest(), told here by whole numbers that do not wrap, and then cut to 64 bits. */
final class Digests {
    private Digests() {
    }

    static long power(int times) {
        return BigInteger.valueOf(31).pow(times).longValue();
    }

    static BigInteger whole(List<Long> numbers) {
        BigInteger h = BigInteger.valueOf(1051);
        for (long number : numbers) {
            h = h.multiply(BigInteger.valueOf(31)).add(BigInteger.valueOf(number));
        }
        return h;
    }
}
