import java.math.BigInteger;
import java.util.HashSet;
import java.util.Set;

/** For each sentence of 'Terms' that names an edge: the last value inside and the first one outside. */
public final class TermsEdgeTest {
    private static final int BAD = SealedTally.BAD;
    private static final int FULL = SealedTally.FULL;
    private static final int NONE = SealedTally.NONE;

    /** The least key, a middle one, unlike primes both ways around, and the greatest. */
    private static final int[][] KEYS = {{3, 5}, {13, 17}, {3, 227}, {229, 5}, {227, 229}};
    private static final long MIN = Long.MIN_VALUE;
    private static final long MAX = Long.MAX_VALUE;

    public static void main(String[] args) {
        primesDiffer();
        primesFrom3();
        primesTo229();
        primesArePrime();
        neitherDividesTheOtherLess1();
        modulusIsTheProduct();
        for (int[] key : KEYS) {
            sealFrom1(key[0], key[1]);
            sealToSquareLess1(key[0], key[1]);
            sealWithoutCommonFactor(key[0], key[1]);
            messagesFrom0(key[0], key[1]);
            messagesToNLess1(key[0], key[1]);
            coinsFrom1(key[0], key[1]);
            coinsToNLess1(key[0], key[1]);
            coinsWithoutCommonFactor(key[0], key[1]);
            productGoesAround(key[0], key[1]);
            messageOfAProductGoesAround(key[0], key[1]);
        }
        eachSealHoldsExactlyOne();
        reckonedExactly();
        candidates1To6();
        radixFrom2();
        powerAtMostN();
        powerFarAboveN();
        voters0To29();
        oneBallotForEachVoter();
        ballotsAtMostRadixLess1();
        sumIs1WithoutBallots();
        Expect.finish();
    }

    private static void key(int p, int q, int due) {
        Expect.same("key(" + p + ", " + q + ")", new SealedTally().key(p, q), due);
    }

    private static void bothWays(int p, int q, int due) {
        key(p, q, due);
        key(q, p, due);
    }

    private static void primesDiffer() {
        Expect.under("KEY, 'two different primes'");
        for (int p : new int[] {3, 5, 13, 227, 229}) {
            key(p, p, BAD);
        }
    }

    private static void primesFrom3() {
        Expect.under("KEY, 'from 3'");
        bothWays(3, 5, 15);
        bothWays(3, 227, 681);
        for (int below : new int[] {2, 1, 0, -1, -2, -3, -5, -229, Integer.MIN_VALUE}) {
            bothWays(below, 3, BAD);
            bothWays(below, 5, BAD);
            bothWays(below, 229, BAD);
            key(below, below, BAD);
        }
        key(-3, -5, BAD);
    }

    private static void primesTo229() {
        Expect.under("KEY, 'to 229'");
        bothWays(229, 227, 51983);
        bothWays(229, 5, 1145);
        for (int above : new int[] {230, 231, 233, 239, 251, 257, 65537, Integer.MAX_VALUE}) {
            bothWays(above, 3, BAD);
            bothWays(above, 5, BAD);
            bothWays(above, 229, BAD);
            key(above, above, BAD);
        }
        key(Integer.MIN_VALUE, Integer.MAX_VALUE, BAD);
        key(Integer.MAX_VALUE, Integer.MIN_VALUE, BAD);
    }

    private static void primesArePrime() {
        Expect.under("KEY, 'primes'");
        for (int number = 3; number <= 229; number++) {
            if (!BigInteger.valueOf(number).isProbablePrime(50)) {
                bothWays(number, 223, BAD);
                bothWays(number, 5, BAD);
            }
        }
        key(9, 25, BAD);
        key(221, 225, BAD);
    }

    private static void neitherDividesTheOtherLess1() {
        Expect.under("KEY, 'neither divides the other one less 1'");
        int[][] divides = {{3, 7}, {3, 13}, {3, 229}, {5, 11}, {7, 29}, {19, 229}, {113, 227}, {37, 223}};
        for (int[] pair : divides) {
            bothWays(pair[0], pair[1], BAD);
        }
        // The other one, or the other one and 1, may be what a prime divides.
        int[][] near = {{3, 5}, {3, 11}, {5, 19}, {19, 227}, {5, 229}, {23, 229}, {113, 229}};
        for (int[] pair : near) {
            bothWays(pair[0], pair[1], pair[0] * pair[1]);
        }
    }

    private static void modulusIsTheProduct() {
        Expect.under("KEY, 'N is p q'");
        for (int[] key : KEYS) {
            Expect.same("modulus()", Make.keyed(key[0], key[1]).modulus(), key[0] * key[1]);
        }
    }

    private static void sealTaken(int p, int q, long c) {
        int n = p * q;
        SealedTally tally = Make.boxed(p, q, 1, 2);
        long m = tally.message(c);
        long r = tally.coin(c);
        Expect.same("is a message, message(" + c + ")", m >= 0 && m < n, true);
        Expect.same("is a coin, coin(" + c + ")", r >= 1 && r < n && Reference.isUnit(n, r), true);
        Expect.same("sealing what is in " + c, Reference.sealing(n, Math.max(0, m), Math.max(0, r)), c);
        Expect.same("join(" + c + ", 1)", tally.join(c, 1), c);
        Expect.same("join(1, " + c + ")", tally.join(1, c), c);
        Expect.same("power(" + c + ", 1)", tally.power(c, 1), c);
        Expect.same("cast(0, " + c + ")", tally.cast(0, c), 1);
        Expect.same("cast(0, " + c + ") again", tally.cast(0, c), 0);
        Expect.same("ballot(0)", tally.ballot(0), c);
        Expect.same("sum()", tally.sum(), c);
    }

    private static void sealRefused(int p, int q, long c) {
        SealedTally tally = Make.boxed(p, q, 1, 2);
        Expect.same("message(" + c + ")", tally.message(c), BAD);
        Expect.same("coin(" + c + ")", tally.coin(c), BAD);
        Expect.same("join(" + c + ", 1)", tally.join(c, 1), BAD);
        Expect.same("join(1, " + c + ")", tally.join(1, c), BAD);
        Expect.same("join(" + c + ", " + c + ")", tally.join(c, c), BAD);
        for (int k : new int[] {Integer.MIN_VALUE, -1, 0, 1, Integer.MAX_VALUE}) {
            Expect.same("power(" + c + ", " + k + ")", tally.power(c, k), BAD);
        }
        Expect.same("cast(0, " + c + ")", tally.cast(0, c), BAD);
        Expect.same("ballot(0)", tally.ballot(0), NONE);
        Expect.same("cast(0, 1)", tally.cast(0, 1), 1);
        Expect.same("cast(0, " + c + ") for another", tally.cast(0, c), BAD);
        Expect.same("ballot(0)", tally.ballot(0), 1);
    }

    private static void sealFrom1(int p, int q) {
        Expect.under("SEAL, 'from 1', N " + p * q);
        sealTaken(p, q, 1);
        sealTaken(p, q, 2);
        long square = (long) p * q * p * q;
        for (long c : new long[] {0, -1, -2, 1 - square, -square, -square - 1, Integer.MIN_VALUE, MIN, MIN + 1}) {
            sealRefused(p, q, c);
        }
    }

    private static void sealToSquareLess1(int p, int q) {
        long square = (long) p * q * p * q;
        Expect.under("SEAL, 'to N N - 1', N " + p * q);
        sealTaken(p, q, square - 1);
        sealTaken(p, q, square - 2);
        for (long c : new long[] {square, square + 1, square + 2, 2 * square - 1, (1L << 32) + 1, (1L << 33) + 2, MAX - 1, MAX}) {
            sealRefused(p, q, c);
        }
    }

    private static void sealWithoutCommonFactor(int p, int q) {
        int n = p * q;
        long square = (long) n * n;
        Expect.under("SEAL, 'no factor in common with N', N " + n);
        for (long c : new long[] {n - 1, n + 1, square - n - 1, square - n + 1}) {
            sealTaken(p, q, c);
        }
        for (long c : new long[] {p, q, 2L * p, 2L * q, (long) p * p, (long) q * q, n - p, n - q, n, n + p, n + q,
            square - n, square - p, square - q}) {
            sealRefused(p, q, c);
        }
    }

    /** A box whose SUM is what sealing the remainders of m and r by N gives, for any m and r. */
    private static SealedTally holding(int p, int q, long m, long r) {
        int n = p * q;
        SealedTally tally = Make.boxed(p, q, 1, 2);
        long coin = Math.floorMod(r, (long) n);
        tally.cast(0, Reference.sealing(n, Math.floorMod(m, (long) n), Reference.isUnit(n, coin) ? coin : 1));
        return tally;
    }

    private static void messageTaken(int p, int q, long m) {
        int n = p * q;
        SealedTally tally = holding(p, q, m, n - 1);
        long c = Reference.sealing(n, m, n - 1);
        Expect.same("seal(" + m + ", N - 1)", tally.seal(m, n - 1), c);
        Expect.same("message(" + c + ")", tally.message(c), m);
        Expect.same("check(" + m + ", N - 1)", tally.check(m, n - 1), true);
        Expect.same("close()", tally.close(), m);
        Expect.same("check(" + m + ", N - 1), closed", tally.check(m, n - 1), true);
    }

    /** What is no message is refused also when its remainder by N would be right. */
    private static void messageRefused(int p, int q, long m) {
        SealedTally tally = holding(p, q, m, 2);
        Expect.same("seal(" + m + ", 1)", tally.seal(m, 1), BAD);
        Expect.same("seal(" + m + ", 2)", tally.seal(m, 2), BAD);
        Expect.same("check(" + m + ", 2)", tally.check(m, 2), false);
        tally.close();
        Expect.same("check(" + m + ", 2), closed", tally.check(m, 2), false);
    }

    private static void messagesFrom0(int p, int q) {
        int n = p * q;
        Expect.under("MESSAGES, '0 ..', N " + n);
        messageTaken(p, q, 0);
        messageTaken(p, q, 1);
        for (long m : new long[] {-1, -2, 1 - n, -n, -n - 1, Integer.MIN_VALUE, MIN, MIN + 1}) {
            messageRefused(p, q, m);
        }
    }

    private static void messagesToNLess1(int p, int q) {
        int n = p * q;
        Expect.under("MESSAGES, '.. N - 1', N " + n);
        messageTaken(p, q, n - 1);
        messageTaken(p, q, n - 2);
        for (long m : new long[] {n, n + 1, 2L * n - 1, 2L * n, (long) n * n, 1L << 32, (1L << 32) + 1, MAX - 1, MAX}) {
            messageRefused(p, q, m);
        }
    }

    private static void coinTaken(int p, int q, long r) {
        int n = p * q;
        SealedTally tally = holding(p, q, 0, r);
        long c = Reference.sealing(n, 0, r);
        Expect.same("seal(0, " + r + ")", tally.seal(0, r), c);
        Expect.same("coin(" + c + ")", tally.coin(c), r);
        Expect.same("choice(0, " + r + ")", tally.choice(0, r), Reference.sealing(n, 1, r));
        Expect.same("check(0, " + r + ")", tally.check(0, r), true);
        tally.close();
        Expect.same("witness()", tally.witness(), r);
        Expect.same("check(0, " + r + "), closed", tally.check(0, r), true);
    }

    /** What is no coin is refused also when its remainder by N would be right. */
    private static void coinRefused(int p, int q, long r) {
        SealedTally tally = holding(p, q, 0, r);
        Expect.same("seal(0, " + r + ")", tally.seal(0, r), BAD);
        Expect.same("seal(N - 1, " + r + ")", tally.seal((long) p * q - 1, r), BAD);
        Expect.same("choice(0, " + r + ")", tally.choice(0, r), BAD);
        Expect.same("check(0, " + r + ")", tally.check(0, r), false);
        tally.close();
        Expect.same("choice(0, " + r + "), closed", tally.choice(0, r), BAD);
        Expect.same("check(0, " + r + "), closed", tally.check(0, r), false);
    }

    private static void coinsFrom1(int p, int q) {
        int n = p * q;
        Expect.under("COINS, '1 ..', N " + n);
        coinTaken(p, q, 1);
        coinTaken(p, q, 2);
        for (long r : new long[] {0, -1, -2, 1 - n, -n, -n - 1, Integer.MIN_VALUE, MIN, MIN + 1}) {
            coinRefused(p, q, r);
        }
    }

    private static void coinsToNLess1(int p, int q) {
        int n = p * q;
        Expect.under("COINS, '.. N - 1', N " + n);
        coinTaken(p, q, n - 1);
        coinTaken(p, q, n - 2);
        for (long r : new long[] {n, n + 1, n + 2, 2L * n - 1, (long) n * n - 1, (1L << 32) + 1, (1L << 33) + 2, MAX - 1, MAX}) {
            coinRefused(p, q, r);
        }
    }

    private static void coinsWithoutCommonFactor(int p, int q) {
        int n = p * q;
        Expect.under("COINS, 'no factor in common with N', N " + n);
        for (long r : new long[] {p, q, 2L * p, 2L * q, n - p, n - q}) {
            coinRefused(p, q, r);
        }
    }

    private static void productGoesAround(int p, int q) {
        long square = (long) p * q * p * q;
        Expect.under("PRODUCT, 'the remainder of their product by N N', N " + p * q);
        SealedTally tally = Make.keyed(p, q);
        // N N is odd, so half of it rounded up is the SEAL whose PRODUCT with 2 is just around.
        Expect.same("2 times the half below", tally.join(2, square / 2), square - 1);
        Expect.same("2 times the half above", tally.join(2, square / 2 + 1), 1);
        Expect.same("the greatest with itself", tally.join(square - 1, square - 1), 1);
        Expect.same("the greatest with the next", tally.join(square - 1, square - 2), 2);
        Expect.same("the next with itself", tally.join(square - 2, square - 2), 4);
        Expect.same("the least with itself", tally.join(1, 1), 1);
    }

    private static void messageOfAProductGoesAround(int p, int q) {
        long n = (long) p * q;
        Expect.under("PRODUCT, 'the remainder by N of the sum of the messages', N " + n);
        SealedTally tally = Make.keyed(p, q);
        long last = tally.seal(n - 1, 2);
        Expect.same("N - 1 and 0", tally.message(tally.join(last, tally.seal(0, n - 1))), n - 1);
        Expect.same("N - 1 and 1", tally.message(tally.join(last, tally.seal(1, n - 1))), 0);
        Expect.same("N - 1 and 2", tally.message(tally.join(last, tally.seal(2, n - 1))), 1);
        Expect.same("N - 1 and N - 1", tally.message(tally.join(last, last)), n - 2);
        Expect.same("0 and 0", tally.message(tally.join(tally.seal(0, 2), tally.seal(0, 2))), 0);
    }

    private static void eachSealHoldsExactlyOne() {
        Expect.under("SEALING, 'each SEAL is what sealing gives for exactly one message and one coin'");
        Set<Long> given = new HashSet<>();
        for (long r : Reference.coins(35)) {
            SealedTally tally = Make.keyed(5, 7);
            for (long m = 0; m < 35; m++) {
                long c = tally.seal(m, r);
                Expect.same("seal(" + m + ", " + r + ") is a SEAL", c >= 1 && c < 35 * 35 && Reference.isUnit(35, c), true);
                Expect.same("seal(" + m + ", " + r + ") is a new one", given.add(c), true);
                Expect.same("message(" + c + ")", tally.message(c), m);
                Expect.same("coin(" + c + ")", tally.coin(c), r);
            }
        }
        Expect.same("how many SEALS", given.size(), 35 * 24);
    }

    /** The greatest key, with SEALS whose products come nearest to the greatest long. */
    private static void reckonedExactly() {
        Expect.under("'All this is reckoned exactly'");
        BigInteger square = BigInteger.valueOf(51983L * 51983L);
        for (long c = 51983L * 51983L - 1; c > 51983L * 51983L - 60; c--) {
            if (!Reference.isUnit(51983, c)) {
                continue;
            }
            SealedTally tally = Make.keyed(229, 227);
            BigInteger exact = BigInteger.valueOf(c);
            Expect.same("join with itself of " + c, tally.join(c, c), exact.multiply(exact).mod(square).longValueExact());
            for (int k : new int[] {2, 3, 65535, Integer.MAX_VALUE, -2, Integer.MIN_VALUE}) {
                Expect.same("power(" + c + ", " + k + ")", tally.power(c, k), exact.modPow(BigInteger.valueOf(k), square).longValueExact());
            }
            Expect.same("sealing what is in " + c, tally.seal(tally.message(c), tally.coin(c)), c);
            long m = tally.message(c);
            Expect.same("sealing it slowly", Reference.sealing(51983, m, tally.coin(c)), c);
        }
    }

    private static void candidates1To6() {
        Expect.under("BOX, 'a number of candidates (1 .. 6)'");
        for (int candidates = 1; candidates <= 6; candidates++) {
            SealedTally tally = Make.boxed(227, 229, candidates, 2);
            Expect.same("choice of the first", tally.choice(0, 1), 1 + 51983);
            Expect.same("choice of the last", tally.choice(candidates - 1, 1), 1 + (1L << candidates - 1) * 51983);
            Expect.same("choice of one more", tally.choice(candidates, 1), BAD);
            Expect.same("choice of one less", tally.choice(-1, 1), BAD);
        }
        for (int candidates : new int[] {0, -1, -2, 7, 8, 15, 32, 33, 64, 65, Integer.MIN_VALUE, Integer.MIN_VALUE + 1, Integer.MAX_VALUE}) {
            SealedTally tally = Make.keyed(227, 229);
            Expect.same("open(" + candidates + ", 2)", tally.open(candidates, 2), false);
            Expect.same("ballots()", tally.ballots(), SealedTally.NO_BOX);
        }
    }

    private static void radixFrom2() {
        Expect.under("BOX, 'a radix (2 or more)'");
        for (int candidates = 1; candidates <= 6; candidates++) {
            Make.boxed(227, 229, candidates, 2);
            for (int radix : new int[] {1, 0, -1, -2, -3, -51983, -65536, Integer.MIN_VALUE, Integer.MIN_VALUE + 1}) {
                SealedTally tally = Make.keyed(227, 229);
                Expect.same("open(" + candidates + ", " + radix + ")", tally.open(candidates, radix), false);
                Expect.same("ballots()", tally.ballots(), SealedTally.NO_BOX);
            }
        }
    }

    /** { p, q, candidates, the greatest radix }: none when that is 1. */
    private static final int[][] GREATEST_RADIX = {
        {3, 5, 1, 15}, {3, 5, 2, 3}, {3, 5, 3, 2}, {3, 5, 4, 1}, {3, 5, 5, 1}, {3, 5, 6, 1},
        {13, 17, 1, 221}, {13, 17, 2, 14}, {13, 17, 3, 6}, {13, 17, 4, 3}, {13, 17, 5, 2}, {13, 17, 6, 2},
        {101, 103, 1, 10403}, {101, 103, 2, 101}, {101, 103, 3, 21}, {101, 103, 4, 10}, {101, 103, 5, 6}, {101, 103, 6, 4},
        {227, 229, 1, 51983}, {227, 229, 2, 227}, {227, 229, 3, 37}, {227, 229, 4, 15}, {227, 229, 5, 8}, {227, 229, 6, 6},
        // N is one above a power (65, 33), or one below it (35; so are 15, 10403 and 51983).
        {5, 13, 6, 2}, {5, 13, 3, 4}, {5, 13, 2, 8}, {3, 11, 5, 2}, {3, 11, 6, 1}, {7, 5, 5, 2}, {7, 5, 6, 1},
    };

    private static void powerAtMostN() {
        Expect.under("BOX, 'radix^candidates at most N'");
        for (int[] row : GREATEST_RADIX) {
            SealedTally tally = Make.keyed(row[0], row[1]);
            Expect.same("N " + row[0] * row[1] + ": open(" + row[2] + ", " + (row[3] + 1) + ")", tally.open(row[2], row[3] + 1), false);
            Expect.same("ballots()", tally.ballots(), SealedTally.NO_BOX);
            Expect.same("N " + row[0] * row[1] + ": open(" + row[2] + ", " + row[3] + ")", tally.open(row[2], row[3]), row[3] >= 2);
        }
    }

    /** Powers that are small, or below 0, when they are reckoned with an int's or a long's wrap-around. */
    private static void powerFarAboveN() {
        Expect.under("BOX, 'radix^candidates at most N', far above");
        int[] radices = {1 << 11, 1 << 13, 1 << 16, 1 << 22, 1 << 30, 46341, 65537, 1291, 1626, 2097152, 2642246,
            (1 << 16) + 1, (1 << 30) + 1, Integer.MAX_VALUE - 1, Integer.MAX_VALUE};
        for (int radix : radices) {
            for (int candidates = 2; candidates <= 6; candidates++) {
                SealedTally tally = Make.keyed(229, 227);
                Expect.same("open(" + candidates + ", " + radix + ")", tally.open(candidates, radix), false);
            }
        }
        Expect.same("open(1, greatest int)", Make.keyed(229, 227).open(1, Integer.MAX_VALUE), false);
        Expect.same("open(1, N + 1)", Make.keyed(229, 227).open(1, 51984), false);
    }

    private static void voters0To29() {
        Expect.under("BOX, 'VOTER 0 .. 29'");
        for (int voter : new int[] {0, 1, 28, 29}) {
            SealedTally tally = Make.boxed(1, 221);
            Expect.same("ballot(" + voter + ")", tally.ballot(voter), NONE);
            Expect.same("withdraw(" + voter + ")", tally.withdraw(voter), NONE);
            Expect.same("cast(" + voter + ", 9)", tally.cast(voter, 9), 1);
            Expect.same("ballot(" + voter + ")", tally.ballot(voter), 9);
            Expect.same("withdraw(" + voter + ")", tally.withdraw(voter), 9);
        }
        for (int voter : new int[] {-1, -2, -29, -30, Integer.MIN_VALUE, 30, 31, 32, 256, 1 << 16, Integer.MAX_VALUE}) {
            SealedTally tally = Make.boxed(1, 221);
            Expect.same("cast(" + voter + ", 9)", tally.cast(voter, 9), BAD);
            Expect.same("ballot(" + voter + ")", tally.ballot(voter), BAD);
            Expect.same("withdraw(" + voter + ")", tally.withdraw(voter), BAD);
            Expect.same("ballots()", tally.ballots(), 0);
        }
    }

    private static void oneBallotForEachVoter() {
        Expect.under("BOX, 'at most one ballot for each VOTER'");
        SealedTally tally = Make.boxed(1, 221);
        for (int voter = 0; voter < 30; voter++) {
            tally.cast(voter, 2);
            tally.cast(voter, 1 + 221 * voter);
            Expect.same("ballots()", tally.ballots(), voter + 1);
        }
        for (int voter = 0; voter < 30; voter++) {
            Expect.same("ballot(" + voter + ")", tally.ballot(voter), 1 + 221 * voter);
        }
        Expect.same("sum()", tally.sum(), 1 + 221 * (29 * 30 / 2 % 221));
    }

    private static void ballotsAtMostRadixLess1() {
        Expect.under("BOX, 'at most radix - 1 ballots in all'");
        for (int radix : new int[] {2, 3, 4, 14, 29, 30, 31, 32, 220, 221}) {
            SealedTally tally = Make.boxed(1, radix);
            int most = Math.min(30, radix - 1);
            for (int voter = 0; voter < 30; voter++) {
                Expect.same("radix " + radix + ": cast(" + voter + ", 4)", tally.cast(voter, 4), voter < most ? 1 : FULL);
                Expect.same("radix " + radix + ": ballots()", tally.ballots(), Math.min(most, voter + 1));
            }
        }
    }

    private static void sumIs1WithoutBallots() {
        Expect.under("BOX, 'its SUM is the PRODUCT of all its ballots (1 when there are none)'");
        for (int[] key : KEYS) {
            SealedTally tally = Make.boxed(key[0], key[1], 1, 3);
            Expect.same("sum() at first", tally.sum(), 1);
            Expect.same("check(0, 1) at first", tally.check(0, 1), true);
            tally.cast(29, 4);
            Expect.same("sum() of one", tally.sum(), 4);
            tally.cast(0, 2);
            Expect.same("sum() of two", tally.sum(), 8);
            tally.withdraw(29);
            tally.withdraw(0);
            Expect.same("sum() when all are taken out", tally.sum(), 1);
            Expect.same("close()", tally.close(), 0);
            Expect.same("sum() of the closed box", tally.sum(), 1);
            Expect.same("witness()", tally.witness(), 1);
            Expect.same("votes(0)", tally.votes(0), 0);
        }
    }
}
