import java.math.BigInteger;

/** What the tests of the boundary cases share: ints at the edges, and MIX worked out another way. */
final class Edges {
    static final int MIN = Integer.MIN_VALUE;
    static final int MAX = Integer.MAX_VALUE;

    /** Ints at which a sum wraps or a sign turns. */
    static final int[] INTS = {MIN, MIN + 1, -1, 0, 1, MAX - 1, MAX};

    private Edges() {}

    /**
     * Ints outside of a range: one below, one above, the least and the greatest int, and such as would be
     * inside if only some of their bits were looked at.
     */
    static int[] outside(int least, int greatest) {
        return new int[] {
            least - 1, greatest + 1, MIN, MAX, MIN + least, MIN + greatest, -greatest - 1,
            least + 256, greatest + 65536, greatest - 65536, least + (1 << 24)};
    }

    /** In numbers without bounds, cut to 32 bits where the document lets ints wrap. */
    static int mix(int a, int b) {
        BigInteger sum = BigInteger.valueOf(31).multiply(BigInteger.valueOf(a))
                .add(BigInteger.valueOf(b)).add(BigInteger.valueOf(5));
        BigInteger s = sum.mod(BigInteger.TWO.pow(32));
        BigInteger t = s.xor(s.divide(BigInteger.valueOf(8192)));
        return t.multiply(BigInteger.valueOf(40503)).intValue();
    }

    static int seal(int key, int kind, int id, int x, int a, int b) {
        return mix(mix(mix(mix(mix(key, kind), id), x), a), b);
    }
}
