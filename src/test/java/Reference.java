import java.math.BigInteger;
import java.util.ArrayList;
import java.util.HashMap;
import java.util.List;
import java.util.Map;
import java.util.TreeMap;

/**
 * The document told a second time, as slowly and plainly as can be: what is in a SEAL is found by
 * sealing everything, never by opening. Fit for small keys only.
 */
final class Reference {
    static final int NO_KEY = -1;
    static final int NO_BOX = -2;
    static final int CLOSED = -3;
    static final int BAD = -4;
    static final int FULL = -5;
    static final int NONE = -6;

    /** What is in each SEAL, by key: { message, coin }. */
    private static final Map<Integer, Map<Long, long[]>> CONTENTS = new HashMap<>();

    private int n = 0;
    private boolean box = false;
    private boolean closed;
    private int candidates;
    private int radix;
    private final Map<Integer, Long> ballots = new TreeMap<>();

    static boolean isKey(int p, int q) {
        return p >= 3 && p <= 229 && q >= 3 && q <= 229 && p != q
                && BigInteger.valueOf(p).isProbablePrime(50) && BigInteger.valueOf(q).isProbablePrime(50)
                && (q - 1) % p != 0 && (p - 1) % q != 0;
    }

    static long sealing(int n, long m, long r) {
        BigInteger modulus = BigInteger.valueOf(n);
        BigInteger square = modulus.multiply(modulus);
        BigInteger left = modulus.add(BigInteger.ONE).modPow(BigInteger.valueOf(m), square);
        BigInteger right = BigInteger.valueOf(r).modPow(modulus, square);
        return left.multiply(right).mod(square).longValueExact();
    }

    static boolean isUnit(int n, long number) {
        return BigInteger.valueOf(number).gcd(BigInteger.valueOf(n)).equals(BigInteger.ONE);
    }

    static List<Long> coins(int n) {
        List<Long> coins = new ArrayList<>();
        for (long r = 1; r < n; r++) {
            if (isUnit(n, r)) {
                coins.add(r);
            }
        }
        return coins;
    }

    static Map<Long, long[]> contents(int n) {
        return CONTENTS.computeIfAbsent(n, Reference::sealEverything);
    }

    private static Map<Long, long[]> sealEverything(int n) {
        Map<Long, long[]> contents = new HashMap<>();
        for (long r : coins(n)) {
            for (long m = 0; m < n; m++) {
                contents.put(sealing(n, m, r), new long[] {m, r});
            }
        }
        return contents;
    }

    int key(int p, int q) {
        if (!isKey(p, q)) {
            return BAD;
        }
        n = p * q;
        box = false;
        return n;
    }

    int modulus() {
        return n;
    }

    private boolean isMessage(long m) {
        return 0 <= m && m <= n - 1;
    }

    private boolean isCoin(long r) {
        return 1 <= r && r <= n - 1 && isUnit(n, r);
    }

    private boolean isSeal(long c) {
        return 1 <= c && c <= (long) n * n - 1 && isUnit(n, c);
    }

    long seal(long m, long r) {
        if (n == 0) return NO_KEY;
        if (!isMessage(m) || !isCoin(r)) return BAD;
        return sealing(n, m, r);
    }

    long message(long c) {
        if (n == 0) return NO_KEY;
        if (!isSeal(c)) return BAD;
        return contents(n).get(c)[0];
    }

    long coin(long c) {
        if (n == 0) return NO_KEY;
        if (!isSeal(c)) return BAD;
        return contents(n).get(c)[1];
    }

    private long product(long c, long d) {
        return BigInteger.valueOf(c).multiply(BigInteger.valueOf(d))
                .mod(BigInteger.valueOf((long) n * n)).longValueExact();
    }

    long join(long c, long d) {
        if (n == 0) return NO_KEY;
        if (!isSeal(c) || !isSeal(d)) return BAD;
        return product(c, d);
    }

    long power(long c, int k) {
        if (n == 0) return NO_KEY;
        if (!isSeal(c)) return BAD;
        return BigInteger.valueOf(c)
                .modPow(BigInteger.valueOf(k), BigInteger.valueOf((long) n * n)).longValueExact();
    }

    private boolean noSuch(int candidate) {
        return candidate < 0 || candidate > candidates - 1;
    }

    private static boolean noVoter(int voter) {
        return voter < 0 || voter > 29;
    }

    boolean open(int candidates, int radix) {
        if (n == 0 || candidates < 1 || candidates > 6 || radix < 2) return false;
        if (BigInteger.valueOf(radix).pow(candidates).compareTo(BigInteger.valueOf(n)) > 0) return false;
        box = true;
        closed = false;
        this.candidates = candidates;
        this.radix = radix;
        ballots.clear();
        return true;
    }

    private long radixPower(int candidate) {
        return BigInteger.valueOf(radix).pow(candidate).longValueExact();
    }

    long choice(int candidate, long r) {
        if (!box) return NO_BOX;
        if (noSuch(candidate) || !isCoin(r)) return BAD;
        return sealing(n, radixPower(candidate), r);
    }

    int cast(int voter, long c) {
        if (!box) return NO_BOX;
        if (closed) return CLOSED;
        if (noVoter(voter) || !isSeal(c)) return BAD;
        if (!ballots.containsKey(voter) && ballots.size() == radix - 1) return FULL;
        return ballots.put(voter, c) == null ? 1 : 0;
    }

    long withdraw(int voter) {
        if (!box) return NO_BOX;
        if (closed) return CLOSED;
        if (noVoter(voter)) return BAD;
        if (!ballots.containsKey(voter)) return NONE;
        return ballots.remove(voter);
    }

    long ballot(int voter) {
        if (!box) return NO_BOX;
        if (noVoter(voter)) return BAD;
        return ballots.containsKey(voter) ? ballots.get(voter) : NONE;
    }

    int ballots() {
        return box ? ballots.size() : NO_BOX;
    }

    long sum() {
        if (!box) return NO_BOX;
        long product = 1;
        for (long c : ballots.values()) {
            product = product(product, c);
        }
        return product;
    }

    long close() {
        if (!box) return NO_BOX;
        if (closed) return CLOSED;
        closed = true;
        return message(sum());
    }

    int votes(int candidate) {
        if (!box) return NO_BOX;
        if (noSuch(candidate)) return BAD;
        if (!closed) return NONE;
        return (int) (message(sum()) / radixPower(candidate) % radix);
    }

    long witness() {
        if (!box) return NO_BOX;
        if (!closed) return NONE;
        return coin(sum());
    }

    boolean check(long m, long r) {
        return box && isMessage(m) && isCoin(r) && sealing(n, m, r) == sum();
    }
}
