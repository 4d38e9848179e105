import java.util.Arrays;

/** Sealed votes: the product of all ballots holds the sum of what is in them. */
public final class SealedTally {
    public static final int NO_KEY = -1;
    public static final int NO_BOX = -2;
    public static final int CLOSED = -3;
    public static final int BAD = -4;
    public static final int FULL = -5;
    public static final int NONE = -6;

    private static final int LEAST_PRIME = 3;
    private static final int GREATEST_PRIME = 229;
    private static final int MOST_CANDIDATES = 6;
    private static final int VOTERS = 30;
    // Every exponent is below n * coinCount, which is below 2^32.
    private static final int EXPONENT_BITS = 32;
    // No SEAL is 0, so 0 can stand for a voter without a ballot.
    private static final long NO_BALLOT = 0;

    private int p;
    private int q;
    // 0 while there is no key.
    private int n;
    // n * n: below 2^32, and (square - 1)^2 is below 2^63, so that no product overflows.
    private long square;
    // How many coins there are: (p - 1) (q - 1).
    private long coinCount;
    private long coinCountInverse;
    private long coinExponent;

    // 0 while there is no box.
    private int candidates;
    private int radix;
    private boolean closed;
    // Of no meaning while the box is open.
    private long total;
    private int ballotCount;
    private final long[] ballotOf;

    public SealedTally() {
        ballotOf = new long[VOTERS];
    }

    public int key(int p, int q) {
        if (!isKey(p, q)) {
            return BAD;
        }
        this.p = p;
        this.q = q;
        n = p * q;
        square = (long) n * n;
        coinCount = (long) (p - 1) * (q - 1);
        // Euler: a number without a factor in common with n, to the power coinCount, leaves 1 by n;
        // coinCount is such a number because neither prime divides the other one less 1.
        coinCountInverse = raised(coinCount, coinCount - 1, n);
        // coinCount * coinCountInverse = 1 + n * v, so n * (coinCount - v) leaves 1 by coinCount:
        // this exponent undoes the exponent n on coins.
        coinExponent = coinCount - (coinCount * coinCountInverse - 1) / n;
        candidates = 0;
        return n;
    }

    public int modulus() {
        return n;
    }

    public long seal(long m, long r) {
        if (!hasKey()) {
            return NO_KEY;
        }
        if (!isMessage(m) || !isCoin(r)) {
            return BAD;
        }
        return sealing(m, r);
    }

    public long message(long c) {
        if (!hasKey()) {
            return NO_KEY;
        }
        if (!isSeal(c)) {
            return BAD;
        }
        return messageIn(c);
    }

    public long coin(long c) {
        if (!hasKey()) {
            return NO_KEY;
        }
        if (!isSeal(c)) {
            return BAD;
        }
        return coinIn(c);
    }

    public long join(long c, long d) {
        if (!hasKey()) {
            return NO_KEY;
        }
        if (!isSeal(c) || !isSeal(d)) {
            return BAD;
        }
        return c * d % square;
    }

    public long power(long c, int k) {
        if (!hasKey()) {
            return NO_KEY;
        }
        if (!isSeal(c)) {
            return BAD;
        }
        // There are n * coinCount SEALS, and each to that power is 1, so an exponent counts
        // only by its remainder, a negative one too.
        long exponent = Math.floorMod((long) k, n * coinCount);
        return raised(c, exponent, square);
    }

    public boolean open(int candidates, int radix) {
        if (!hasKey() || !isBoxSize(candidates, radix)) {
            return false;
        }
        this.candidates = candidates;
        this.radix = radix;
        closed = false;
        ballotCount = 0;
        Arrays.fill(ballotOf, NO_BALLOT);
        return true;
    }

    public long choice(int candidate, long r) {
        if (!hasBox()) {
            return NO_BOX;
        }
        if (!isCandidate(candidate) || !isCoin(r)) {
            return BAD;
        }
        return sealing(radixPower(candidate), r);
    }

    public int cast(int voter, long c) {
        if (!hasBox()) {
            return NO_BOX;
        }
        if (closed) {
            return CLOSED;
        }
        if (!isVoter(voter) || !isSeal(c)) {
            return BAD;
        }
        boolean first = ballotOf[voter] == NO_BALLOT;
        if (first && ballotCount >= radix - 1) {
            return FULL;
        }
        ballotOf[voter] = c;
        if (!first) {
            return 0;
        }
        ballotCount++;
        return 1;
    }

    public long withdraw(int voter) {
        if (!hasBox()) {
            return NO_BOX;
        }
        if (closed) {
            return CLOSED;
        }
        if (!isVoter(voter)) {
            return BAD;
        }
        long taken = ballotOf[voter];
        if (taken == NO_BALLOT) {
            return NONE;
        }
        ballotOf[voter] = NO_BALLOT;
        ballotCount--;
        return taken;
    }

    public long ballot(int voter) {
        if (!hasBox()) {
            return NO_BOX;
        }
        if (!isVoter(voter)) {
            return BAD;
        }
        return ballotOf[voter] == NO_BALLOT ? NONE : ballotOf[voter];
    }

    public int ballots() {
        return hasBox() ? ballotCount : NO_BOX;
    }

    public long sum() {
        return hasBox() ? productOfBallots() : NO_BOX;
    }

    public long close() {
        if (!hasBox()) {
            return NO_BOX;
        }
        if (closed) {
            return CLOSED;
        }
        closed = true;
        total = messageIn(productOfBallots());
        return total;
    }

    public int votes(int candidate) {
        if (!hasBox()) {
            return NO_BOX;
        }
        if (!isCandidate(candidate)) {
            return BAD;
        }
        if (!closed) {
            return NONE;
        }
        return (int) (total / radixPower(candidate) % radix);
    }

    public long witness() {
        if (!hasBox()) {
            return NO_BOX;
        }
        if (!closed) {
            return NONE;
        }
        return coinIn(productOfBallots());
    }

    public boolean check(long m, long r) {
        return hasBox() && isMessage(m) && isCoin(r) && sealing(m, r) == productOfBallots();
    }

    private boolean hasKey() {
        return n > 0;
    }

    // A box is only ever opened under a key, and a new key takes it away: a box means a key.
    private boolean hasBox() {
        return candidates > 0;
    }

    private static boolean isKey(int p, int q) {
        return isKeyPrime(p) && isKeyPrime(q) && p != q
                && (q - 1) % p != 0 && (p - 1) % q != 0;
    }

    private static boolean isKeyPrime(int number) {
        if (number < LEAST_PRIME || number > GREATEST_PRIME) {
            return false;
        }
        for (int divisor = 2; divisor < number; divisor++) {
            if (number % divisor == 0) {
                return false;
            }
        }
        return true;
    }

    private boolean isMessage(long m) {
        return m >= 0 && m < n;
    }

    private boolean isCoin(long r) {
        return r >= 1 && r < n && sharesNoFactor(r);
    }

    private boolean isSeal(long c) {
        return c >= 1 && c < square && sharesNoFactor(c);
    }

    private boolean sharesNoFactor(long number) {
        return hasKey() && number % p != 0 && number % q != 0;
    }

    private boolean isBoxSize(int candidates, int radix) {
        if (candidates < 1 || candidates > MOST_CANDIDATES || radix < 2) {
            return false;
        }
        long power = 1;
        for (int i = 0; i < candidates; i++) {
            power *= radix;
            // Looked at after each factor, so that a great radix can't overflow.
            if (power > n) {
                return false;
            }
        }
        return true;
    }

    private boolean isCandidate(int candidate) {
        return candidate >= 0 && candidate < candidates;
    }

    private static boolean isVoter(int voter) {
        return voter >= 0 && voter < VOTERS;
    }

    private long radixPower(int candidate) {
        long power = 1;
        for (int i = 0; i < candidate; i++) {
            power *= radix;
        }
        return power;
    }

    private long sealing(long m, long r) {
        // (1 + n)^m leaves 1 + m n by n n: every later term of the binomial holds n n.
        return (1 + m * n) * raised(r, n, square) % square;
    }

    private long messageIn(long c) {
        // The power takes the coin away and leaves 1 + (m coinCount) n.
        long opened = raised(c, coinCount, square);
        return (opened - 1) / n * coinCountInverse % n;
    }

    private long coinIn(long c) {
        // By n, the part of the message leaves 1: what stays is the coin to the power n.
        return raised(c % n, coinExponent, n);
    }

    private long productOfBallots() {
        long product = 1;
        for (int voter = 0; voter < VOTERS; voter++) {
            if (ballotOf[voter] != NO_BALLOT) {
                product = product * ballotOf[voter] % square;
            }
        }
        return product;
    }

    private static long raised(long base, long exponent, long modulus) {
        long result = 1;
        long factor = base;
        for (int bit = 0; bit < EXPONENT_BITS; bit++) {
            if ((exponent >> bit & 1) == 1) {
                result = result * factor % modulus;
            }
            factor = factor * factor % modulus;
        }
        return result;
    }
}
