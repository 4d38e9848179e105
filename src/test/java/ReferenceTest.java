import java.util.Random;

/** Many runs of mixed calls, each answer held against the reference's. */
public final class ReferenceTest {
    private static final int RUNS = 1500;
    private static final int CALLS = 512;
    private static final int[][] KEYS = {{3, 5}, {5, 3}, {5, 7}, {3, 11}, {7, 11}, {11, 13}, {13, 17}};
    private static final int[][] NO_KEYS = {{3, 7}, {11, 5}, {5, 5}, {2, 3}, {9, 5}, {0, 0}, {-3, 5}, {3, 233},
        {Integer.MIN_VALUE, Integer.MAX_VALUE}, {1, 3}, {3, 1}};
    private static final long[] FAR = {Long.MIN_VALUE, Long.MAX_VALUE, -1, 0, 1, 1L << 32, (1L << 32) + 1,
        Integer.MIN_VALUE, Integer.MAX_VALUE};
    private static final int[] FAR_INT = {Integer.MIN_VALUE, Integer.MAX_VALUE, -1, 0, 1, 2, 6, 7, 29, 30, 31, 65536};

    private final Random random;
    private final SealedTally tally = new SealedTally();
    private final Reference reference = new Reference();

    private ReferenceTest(long seed) {
        random = new Random(seed);
    }

    public static void main(String[] args) {
        for (int run = 0; run < RUNS; run++) {
            new ReferenceTest(run).run();
        }
        Expect.finish();
    }

    private void run() {
        for (int call = 0; call < CALLS; call++) {
            call();
        }
    }

    private void call() {
        int kind = random.nextInt(100);
        if (kind < 2) {
            key(KEYS[random.nextInt(KEYS.length)]);
        } else if (kind < 4) {
            key(NO_KEYS[random.nextInt(NO_KEYS.length)]);
        } else if (kind < 40) {
            number(kind % 6);
        } else if (kind < 45) {
            int candidates = random.nextInt(8) == 0 ? farInt() : 1 + random.nextInt(3);
            int radix = random.nextInt(8) == 0 ? farInt() : radix();
            Expect.same("open(" + candidates + ", " + radix + ")",
                    tally.open(candidates, radix), reference.open(candidates, radix));
        } else if (kind < 70) {
            int voter = voter();
            long c = seal();
            Expect.same("cast(" + voter + ", " + c + ")", tally.cast(voter, c), reference.cast(voter, c));
        } else {
            look(kind);
        }
    }

    private void key(int[] primes) {
        Expect.same("key(" + primes[0] + ", " + primes[1] + ")",
                tally.key(primes[0], primes[1]), reference.key(primes[0], primes[1]));
    }

    private void number(int kind) {
        long c = seal();
        long d = seal();
        int k = random.nextBoolean() ? farInt() : random.nextInt(40) - 20;
        long m = message();
        long r = coin();
        switch (kind) {
            case 0 -> Expect.same("modulus()", tally.modulus(), reference.modulus());
            case 1 -> Expect.same("seal(" + m + ", " + r + ")", tally.seal(m, r), reference.seal(m, r));
            case 2 -> Expect.same("message(" + c + ")", tally.message(c), reference.message(c));
            case 3 -> Expect.same("coin(" + c + ")", tally.coin(c), reference.coin(c));
            case 4 -> Expect.same("join(" + c + ", " + d + ")", tally.join(c, d), reference.join(c, d));
            default -> Expect.same("power(" + c + ", " + k + ")", tally.power(c, k), reference.power(c, k));
        }
    }

    private void look(int kind) {
        int voter = voter();
        int candidate = random.nextInt(6) == 0 ? farInt() : random.nextInt(4);
        long r = coin();
        if (kind < 75) {
            Expect.same("withdraw(" + voter + ")", tally.withdraw(voter), reference.withdraw(voter));
        } else if (kind < 79) {
            Expect.same("ballot(" + voter + ")", tally.ballot(voter), reference.ballot(voter));
        } else if (kind < 82) {
            Expect.same("ballots()", tally.ballots(), reference.ballots());
        } else if (kind < 85) {
            Expect.same("sum()", tally.sum(), reference.sum());
        } else if (kind < 87) {
            Expect.same("close()", tally.close(), reference.close());
        } else if (kind < 91) {
            Expect.same("votes(" + candidate + ")", tally.votes(candidate), reference.votes(candidate));
        } else if (kind < 94) {
            Expect.same("witness()", tally.witness(), reference.witness());
        } else if (kind < 97) {
            Expect.same("choice(" + candidate + ", " + r + ")",
                    tally.choice(candidate, r), reference.choice(candidate, r));
        } else {
            check();
        }
    }

    private void check() {
        long m = message();
        long r = coin();
        if (random.nextBoolean() && reference.ballots() >= 0) {
            m = reference.message(reference.sum());
            r = random.nextInt(4) == 0 ? r : reference.coin(reference.sum());
        }
        Expect.same("check(" + m + ", " + r + ")", tally.check(m, r), reference.check(m, r));
    }

    private int radix() {
        return 2 + random.nextInt(random.nextBoolean() ? 5 : 40);
    }

    private int voter() {
        return random.nextInt(12) == 0 ? farInt() : random.nextInt(random.nextBoolean() ? 30 : 5);
    }

    private int farInt() {
        return FAR_INT[random.nextInt(FAR_INT.length)];
    }

    /** Mostly from 0 up to a little above the bound; now and then far away. */
    private long about(long bound) {
        return random.nextInt(15) == 0 ? FAR[random.nextInt(FAR.length)] : (long) (random.nextDouble() * (bound + 2));
    }

    private long message() {
        return random.nextInt(8) == 0 ? reference.modulus() - random.nextInt(2) : about(reference.modulus());
    }

    private long coin() {
        return random.nextInt(8) == 0 ? reference.modulus() - random.nextInt(2) : about(reference.modulus());
    }

    private long seal() {
        long square = (long) reference.modulus() * reference.modulus();
        return random.nextInt(8) == 0 ? square - random.nextInt(2) : about(square);
    }
}
