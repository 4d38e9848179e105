import java.math.BigInteger;
import java.util.List;

/** For each promise of the document: ordinary inputs, the edges it names, and wrong inputs. */
public final class PromiseTest {
    private static final int NO_KEY = SealedTally.NO_KEY;
    private static final int NO_BOX = SealedTally.NO_BOX;
    private static final int CLOSED = SealedTally.CLOSED;
    private static final int BAD = SealedTally.BAD;
    private static final int FULL = SealedTally.FULL;
    private static final int NONE = SealedTally.NONE;

    private static final int[][] SMALL_KEYS = {{3, 5}, {5, 3}, {5, 7}, {3, 11}, {7, 11}};
    private static final int GREATEST = 229 * 227;
    private static final long GREATEST_SQUARE = (long) GREATEST * GREATEST;
    private static final long[] FAR = {Long.MIN_VALUE, Integer.MIN_VALUE, -1, 1L << 32, (1L << 32) + 1, Long.MAX_VALUE};
    private static final int[] NO_VOTERS = {Integer.MIN_VALUE, -1, 30, 31, Integer.MAX_VALUE};

    public static void main(String[] args) {
        promise1NewObject();
        promise2Key();
        promise3Modulus();
        promises4To6SealMessageCoin();
        promises4To6GreatestKey();
        promises4To6AllKeys();
        promise7Join();
        promise8Power();
        promise9Open();
        promise10Choice();
        promise11Cast();
        promise12Withdraw();
        promise13Ballot();
        promise14Ballots();
        promise15Sum();
        promise16Close();
        promise17Votes();
        promise18Witness();
        promise19Check();
        Expect.finish();
    }

    private static void promise1NewObject() {
        noKey(new SealedTally());
        noBox(new SealedTally());
    }

    private static void noKey(SealedTally tally) {
        Expect.same("no key: modulus()", tally.modulus(), 0);
        for (long any : new long[] {Long.MIN_VALUE, -1, 0, 1, 2, Long.MAX_VALUE}) {
            Expect.same("no key: seal", tally.seal(any, any), NO_KEY);
            Expect.same("no key: message", tally.message(any), NO_KEY);
            Expect.same("no key: coin", tally.coin(any), NO_KEY);
            Expect.same("no key: join", tally.join(any, any), NO_KEY);
            Expect.same("no key: power", tally.power(any, (int) any), NO_KEY);
            Expect.same("no key: open", tally.open((int) any, 2), false);
        }
        Expect.same("no key: open(1, 2)", tally.open(1, 2), false);
    }

    private static void noBox(SealedTally tally) {
        for (long any : new long[] {Long.MIN_VALUE, -1, 0, 1, 2, 30, Long.MAX_VALUE}) {
            Expect.same("no box: choice", tally.choice((int) any, any), NO_BOX);
            Expect.same("no box: cast", tally.cast((int) any, any), NO_BOX);
            Expect.same("no box: withdraw", tally.withdraw((int) any), NO_BOX);
            Expect.same("no box: ballot", tally.ballot((int) any), NO_BOX);
            Expect.same("no box: votes", tally.votes((int) any), NO_BOX);
            Expect.same("no box: check", tally.check(any, any), false);
        }
        Expect.same("no box: ballots", tally.ballots(), NO_BOX);
        Expect.same("no box: sum", tally.sum(), NO_BOX);
        Expect.same("no box: close", tally.close(), NO_BOX);
        Expect.same("no box: witness", tally.witness(), NO_BOX);
        Expect.same("no box: check(0, 1)", tally.check(0, 1), false);
    }

    private static void promise2Key() {
        for (int p = -3; p <= 260; p++) {
            SealedTally tally = new SealedTally();
            for (int q = -3; q <= 260; q++) {
                long due = Reference.isKey(p, q) ? p * q : BAD;
                Expect.same("key(" + p + ", " + q + ")", tally.key(p, q), due);
            }
        }
        SealedTally tally = new SealedTally();
        for (int far : new int[] {Integer.MIN_VALUE, -5, 65539, Integer.MAX_VALUE}) {
            Expect.same("key(far, 3)", tally.key(far, 3), BAD);
            Expect.same("key(3, far)", tally.key(3, far), BAD);
            Expect.same("key(far, far)", tally.key(far, far), BAD);
        }
        noKey(tally);
        keyTakesTheBoxAway();
        badKeyKeepsKeyAndBox();
    }

    private static void keyTakesTheBoxAway() {
        SealedTally tally = Make.boxed(2, 4);
        tally.cast(3, 4);
        Expect.same("key(13, 17) again", tally.key(13, 17), 221);
        noBox(tally);
        tally.open(1, 2);
        tally.close();
        Expect.same("key(3, 5) after a closed box", tally.key(3, 5), 15);
        noBox(tally);
        Expect.same("seal(7, 2) under the new key", tally.seal(7, 2), 83);
        tally.open(1, 2);
        Expect.same("ballots() under the new key", tally.ballots(), 0);
    }

    private static void badKeyKeepsKeyAndBox() {
        SealedTally tally = Make.boxed(2, 4);
        tally.cast(3, 4);
        Expect.same("key(3, 7)", tally.key(3, 7), BAD);
        Expect.same("modulus() after a bad key", tally.modulus(), 221);
        Expect.same("sum() after a bad key", tally.sum(), 4);
        Expect.same("seal(1, 2) after a bad key", tally.seal(1, 2), 4894);
    }

    private static void promise3Modulus() {
        SealedTally tally = new SealedTally();
        Expect.same("modulus() without a key", tally.modulus(), 0);
        tally.key(4, 5);
        Expect.same("modulus() after a bad first key", tally.modulus(), 0);
        tally.key(3, 5);
        Expect.same("modulus() 15", tally.modulus(), 15);
        tally.key(229, 227);
        Expect.same("modulus() greatest", tally.modulus(), GREATEST);
        tally.key(229, 229);
        Expect.same("modulus() after a bad key", tally.modulus(), GREATEST);
    }

    /** Every message with every coin under small keys, and every number around the SEALS. */
    private static void promises4To6SealMessageCoin() {
        for (int[] primes : SMALL_KEYS) {
            int n = primes[0] * primes[1];
            for (long r = -1; r <= n + 1; r++) {
                SealedTally tally = Make.keyed(primes[0], primes[1]);
                boolean coin = r >= 1 && r < n && Reference.isUnit(n, r);
                for (long m = -1; m <= n + 1; m++) {
                    boolean message = m >= 0 && m < n;
                    long due = coin && message ? Reference.sealing(n, m, r) : BAD;
                    Expect.same(n + ": seal(" + m + ", " + r + ")", tally.seal(m, r), due);
                }
            }
            for (long c = -1; c <= (long) n * n + 1; c++) {
                SealedTally tally = Make.keyed(primes[0], primes[1]);
                long[] in = Reference.contents(n).get(c);
                Expect.same(n + ": message(" + c + ")", tally.message(c), in == null ? BAD : in[0]);
                Expect.same(n + ": coin(" + c + ")", tally.coin(c), in == null ? BAD : in[1]);
            }
        }
    }

    private static void promises4To6GreatestKey() {
        for (long r = 1; r < GREATEST; r += 1 + r % 389) {
            SealedTally tally = Make.keyed(227, 229);
            if (!Reference.isUnit(GREATEST, r)) {
                Expect.same("greatest: seal(0, " + r + ")", tally.seal(0, r), BAD);
                continue;
            }
            for (long m : new long[] {0, 1, r, GREATEST / 2, GREATEST - 2, GREATEST - 1}) {
                long c = Reference.sealing(GREATEST, m, r);
                Expect.same("greatest: seal(" + m + ", " + r + ")", tally.seal(m, r), c);
                Expect.same("greatest: message(" + c + ")", tally.message(c), m);
                Expect.same("greatest: coin(" + c + ")", tally.coin(c), r);
            }
        }
        SealedTally tally = Make.keyed(227, 229);
        for (long far : FAR) {
            Expect.same("seal(" + far + ", 1)", tally.seal(far, 1), BAD);
            Expect.same("seal(1, " + far + ")", tally.seal(1, far), BAD);
            Expect.same("message(" + far + ")", tally.message(far), BAD);
            Expect.same("coin(" + far + ")", tally.coin(far), BAD);
        }
        for (long c : new long[] {0, 227, 229, GREATEST, GREATEST_SQUARE - 227, GREATEST_SQUARE, GREATEST_SQUARE + 1}) {
            Expect.same("greatest: message(" + c + ")", tally.message(c), BAD);
            Expect.same("greatest: coin(" + c + ")", tally.coin(c), BAD);
        }
        Expect.same("greatest: message(N N - 1)", tally.message(GREATEST_SQUARE - 1), 0);
        Expect.same("greatest: coin(N N - 1)", tally.coin(GREATEST_SQUARE - 1), GREATEST - 1);
    }

    private static void promises4To6AllKeys() {
        for (int p = 3; p <= 229; p++) {
            for (int q = 3; q <= 229; q++) {
                if (!Reference.isKey(p, q)) {
                    continue;
                }
                SealedTally tally = Make.keyed(p, q);
                int n = p * q;
                for (long[] in : new long[][] {{0, 1}, {1, 2}, {n / 3, n - 2}, {n - 1, n - 1}}) {
                    long c = Reference.sealing(n, in[0], in[1]);
                    Expect.same(n + ": seal(" + in[0] + ", " + in[1] + ")", tally.seal(in[0], in[1]), c);
                    Expect.same(n + ": message(" + c + ")", tally.message(c), in[0]);
                    Expect.same(n + ": coin(" + c + ")", tally.coin(c), in[1]);
                }
            }
        }
    }

    private static void promise7Join() {
        for (long c = -1; c <= 226; c++) {
            SealedTally tally = Make.keyed(3, 5);
            for (long d = -1; d <= 226; d++) {
                boolean seals = Reference.contents(15).containsKey(c) && Reference.contents(15).containsKey(d);
                Expect.same("join(" + c + ", " + d + ")", tally.join(c, d), seals ? c * d % 225 : BAD);
            }
        }
        SealedTally tally = Make.keyed(229, 227);
        long last = GREATEST_SQUARE - 1;
        Expect.same("join of the greatest SEALS", tally.join(last, last), 1);
        Expect.same("join of the next greatest", tally.join(last, last - 1), 2);
        for (long far : FAR) {
            Expect.same("join(" + far + ", 1)", tally.join(far, 1), BAD);
            Expect.same("join(1, " + far + ")", tally.join(1, far), BAD);
        }
        long joined = tally.join(tally.seal(GREATEST - 1, 10), tally.seal(5, 20));
        Expect.same("the message in a product", tally.message(joined), 4);
        Expect.same("the coin in a product", tally.coin(joined), 200);
    }

    private static void promise8Power() {
        int[] exponents = {0, 1, 2, 3, 119, 120, 121, 65536, Integer.MAX_VALUE - 1, Integer.MAX_VALUE,
            -1, -2, -119, -120, -121, -65537, Integer.MIN_VALUE + 1, Integer.MIN_VALUE};
        for (int[] primes : new int[][] {{3, 5}, {13, 17}, {227, 229}}) {
            long n = (long) primes[0] * primes[1];
            for (long c : new long[] {1, 2, 7, n - 1, n + 1, n * n - n - 1, n * n - 2, n * n - 1}) {
                SealedTally tally = Make.keyed(primes[0], primes[1]);
                for (int k : exponents) {
                    long due = BigInteger.valueOf(c).modPow(BigInteger.valueOf(k), BigInteger.valueOf(n * n)).longValueExact();
                    Expect.same(n + ": power(" + c + ", " + k + ")", tally.power(c, k), due);
                }
            }
        }
        SealedTally tally = Make.keyed(3, 5);
        for (long c : new long[] {Long.MIN_VALUE, -1, 0, 3, 5, 15, 222, 225, 226, Long.MAX_VALUE}) {
            for (int k : new int[] {-1, 0, 1}) {
                Expect.same("power(" + c + ", " + k + ")", tally.power(c, k), BAD);
            }
        }
    }

    private static void promise9Open() {
        for (int[] primes : new int[][] {{3, 5}, {13, 17}, {101, 103}, {227, 229}}) {
            for (int candidates = -1; candidates <= 8; candidates++) {
                openWithRadices(primes, candidates);
            }
        }
        SealedTally tally = Make.keyed(227, 229);
        for (int candidates : new int[] {Integer.MIN_VALUE, -1, 0, 7, 32, 64, Integer.MAX_VALUE}) {
            Expect.same("open(" + candidates + ", 2)", tally.open(candidates, 2), false);
        }
        Expect.same("ballots() after refused boxes", tally.ballots(), NO_BOX);
        openReplacesTheBox();
        refusedOpenKeepsTheBox();
    }

    private static void openWithRadices(int[] primes, int candidates) {
        int n = primes[0] * primes[1];
        int edge = candidates < 1 ? 2 : (int) Math.round(Math.pow(n, 1.0 / candidates));
        SealedTally tally = Make.keyed(primes[0], primes[1]);
        for (int radix : new int[] {Integer.MIN_VALUE, -2, 0, 1, 2, 3, edge - 1, edge, edge + 1, n, n + 1,
            1625, 2642245, 46341, 65536, 1 << 16, 1 << 22, 1 << 30, Integer.MAX_VALUE}) {
            boolean due = candidates >= 1 && candidates <= 6 && radix >= 2
                    && BigInteger.valueOf(radix).pow(candidates).compareTo(BigInteger.valueOf(n)) <= 0;
            Expect.same(n + ": open(" + candidates + ", " + radix + ")", tally.open(candidates, radix), due);
        }
    }

    private static void openReplacesTheBox() {
        SealedTally tally = Make.boxed(2, 14);
        tally.cast(0, 4);
        tally.cast(29, 9);
        Expect.same("open over an open box", tally.open(3, 6), true);
        Expect.same("ballots() of the new box", tally.ballots(), 0);
        Expect.same("sum() of the new box", tally.sum(), 1);
        Expect.same("ballot(0) of the new box", tally.ballot(0), NONE);
        Expect.same("ballot(29) of the new box", tally.ballot(29), NONE);
        Expect.same("choice(2, 1) of the new box", tally.choice(2, 1), 1 + 36 * 221);
        tally.cast(0, 4);
        tally.close();
        Expect.same("open over a closed box", tally.open(1, 2), true);
        Expect.same("witness() of the new box", tally.witness(), NONE);
        Expect.same("cast(0, 4) in the new box", tally.cast(0, 4), 1);
        Expect.same("votes(1) of the new box", tally.votes(1), BAD);
    }

    private static void refusedOpenKeepsTheBox() {
        SealedTally tally = Make.boxed(2, 14);
        tally.cast(0, 4);
        tally.close();
        Expect.same("open(2, 15)", tally.open(2, 15), false);
        Expect.same("open(0, 2)", tally.open(0, 2), false);
        Expect.same("open(1, 1)", tally.open(1, 1), false);
        Expect.same("sum() after refused boxes", tally.sum(), 4);
        Expect.same("close() after refused boxes", tally.close(), CLOSED);
        Expect.same("votes(1) after refused boxes", tally.votes(1), tally.message(4) / 14);
    }

    private static void promise10Choice() {
        int n = 221;
        List<Long> coins = Reference.coins(n);
        SealedTally tally = Make.boxed(3, 6);
        for (long r : coins) {
            long power = r % 3 == 0 ? 1 : r % 3 == 1 ? 6 : 36;
            Expect.same("choice(" + r % 3 + ", " + r + ")", tally.choice((int) (r % 3), r), Reference.sealing(n, power, r));
        }
        for (int candidate : new int[] {Integer.MIN_VALUE, -1, 3, 6, Integer.MAX_VALUE}) {
            Expect.same("choice(" + candidate + ", 1)", tally.choice(candidate, 1), BAD);
        }
        for (long r : new long[] {Long.MIN_VALUE, -1, 0, 13, 17, 208, 221, 222, (1L << 32) + 1, Long.MAX_VALUE}) {
            Expect.same("choice(0, " + r + ")", tally.choice(0, r), BAD);
        }
        Expect.same("ballots() after choices", tally.ballots(), 0);
        tally.close();
        Expect.same("choice(1, 5) of a closed box", tally.choice(1, 5), Reference.sealing(n, 6, 5));
        Expect.same("choice(3, 5) of a closed box", tally.choice(3, 5), BAD);
        choiceOfSix();
    }

    private static void choiceOfSix() {
        SealedTally tally = Make.keyed(227, 229);
        Expect.same("open(6, 6)", tally.open(6, 6), true);
        Expect.same("choice(5, 51982)", tally.choice(5, GREATEST - 1), Reference.sealing(GREATEST, 7776, GREATEST - 1));
        Expect.same("choice(6, 1)", tally.choice(6, 1), BAD);
    }

    private static void promise11Cast() {
        SealedTally tally = Make.boxed(2, 4);
        Expect.same("cast(0, 4)", tally.cast(0, 4), 1);
        Expect.same("cast(0, 4) again", tally.cast(0, 4), 0);
        Expect.same("cast(29, 48840)", tally.cast(29, 48840), 1);
        Expect.same("cast(7, 1)", tally.cast(7, 1), 1);
        Expect.same("cast(8, 1) into a full box", tally.cast(8, 1), FULL);
        Expect.same("cast(30, 1) into a full box", tally.cast(30, 1), BAD);
        Expect.same("cast(8, 0) into a full box", tally.cast(8, 0), BAD);
        Expect.same("cast(7, 25) into a full box", tally.cast(7, 25), 0);
        Expect.same("ballot(7)", tally.ballot(7), 25);
        Expect.same("ballot(8)", tally.ballot(8), NONE);
        Expect.same("ballots()", tally.ballots(), 3);
        for (int voter : NO_VOTERS) {
            Expect.same("cast(" + voter + ", 1)", tally.cast(voter, 1), BAD);
        }
        for (long c : new long[] {Long.MIN_VALUE, -1, 0, 13, 17, 221, 48841 - 17, 48841, 48842, (1L << 32) + 1, Long.MAX_VALUE}) {
            Expect.same("cast(0, " + c + ")", tally.cast(0, c), BAD);
        }
        Expect.same("ballot(0) after bad casts", tally.ballot(0), 4);
        tally.close();
        Expect.same("cast(0, 1) into a closed box", tally.cast(0, 1), CLOSED);
        Expect.same("cast(-1, 0) into a closed box", tally.cast(-1, 0), CLOSED);
        Expect.same("ballot(0) after closed casts", tally.ballot(0), 4);
        castOneOrThirty();
    }

    private static void castOneOrThirty() {
        SealedTally tally = Make.boxed(1, 2);
        Expect.same("radix 2: first", tally.cast(3, 2), 1);
        Expect.same("radix 2: second", tally.cast(4, 2), FULL);
        Expect.same("radix 2: replaced", tally.cast(3, 3), 0);
        for (int radix : new int[] {30, 31, 221}) {
            tally.open(1, radix);
            for (int voter = 29; voter >= 0; voter--) {
                int due = 29 - voter < radix - 1 ? 1 : FULL;
                Expect.same("radix " + radix + ": cast(" + voter + ", 2)", tally.cast(voter, 2), due);
            }
            Expect.same("radix " + radix + ": ballots()", tally.ballots(), Math.min(30, radix - 1));
        }
    }

    private static void promise12Withdraw() {
        SealedTally tally = Make.boxed(2, 3);
        Expect.same("withdraw(0) from an empty box", tally.withdraw(0), NONE);
        tally.cast(0, 4);
        tally.cast(29, 25);
        Expect.same("cast(1, 9) when full", tally.cast(1, 9), FULL);
        Expect.same("withdraw(29)", tally.withdraw(29), 25);
        Expect.same("withdraw(29) again", tally.withdraw(29), NONE);
        Expect.same("ballots()", tally.ballots(), 1);
        Expect.same("sum()", tally.sum(), 4);
        Expect.same("cast(1, 9) after a withdrawal", tally.cast(1, 9), 1);
        Expect.same("cast(29, 9) when full again", tally.cast(29, 9), FULL);
        Expect.same("withdraw(1)", tally.withdraw(1), 9);
        Expect.same("cast(29, 9) as a first one again", tally.cast(29, 9), 1);
        for (int voter : NO_VOTERS) {
            Expect.same("withdraw(" + voter + ")", tally.withdraw(voter), BAD);
        }
        tally.close();
        for (int voter : new int[] {-1, 0, 5, 30}) {
            Expect.same("withdraw(" + voter + ") from a closed box", tally.withdraw(voter), CLOSED);
        }
        Expect.same("ballots() after closed withdrawals", tally.ballots(), 2);
        Expect.same("sum() after closed withdrawals", tally.sum(), 36);
    }

    private static void promise13Ballot() {
        SealedTally tally = Make.boxed(1, 40);
        for (int voter = 0; voter < 30; voter++) {
            Expect.same("ballot(" + voter + ") before", tally.ballot(voter), NONE);
            tally.cast(voter, 1 + 221 * voter);
            Expect.same("ballot(" + voter + ") after", tally.ballot(voter), 1 + 221 * voter);
        }
        tally.withdraw(12);
        tally.cast(13, 2);
        tally.close();
        for (int voter = 0; voter < 30; voter++) {
            int due = voter == 12 ? NONE : voter == 13 ? 2 : 1 + 221 * voter;
            Expect.same("ballot(" + voter + ") in the closed box", tally.ballot(voter), due);
        }
        for (int voter : NO_VOTERS) {
            Expect.same("ballot(" + voter + ")", tally.ballot(voter), BAD);
        }
    }

    private static void promise14Ballots() {
        SealedTally tally = Make.boxed(1, 40);
        Expect.same("ballots() at first", tally.ballots(), 0);
        for (int voter = 0; voter < 30; voter++) {
            tally.cast(voter, 1);
            tally.cast(voter, 2);
            Expect.same("ballots() after voter " + voter, tally.ballots(), voter + 1);
        }
        tally.cast(30, 1);
        tally.cast(3, 13);
        tally.withdraw(31);
        Expect.same("ballots() after wrong calls", tally.ballots(), 30);
        tally.withdraw(3);
        tally.withdraw(3);
        Expect.same("ballots() after a withdrawal", tally.ballots(), 29);
        tally.close();
        Expect.same("ballots() in the closed box", tally.ballots(), 29);
    }

    private static void promise15Sum() {
        SealedTally tally = Make.keyed(227, 229);
        tally.open(1, 31);
        Expect.same("sum() without ballots", tally.sum(), 1);
        BigInteger square = BigInteger.valueOf(GREATEST_SQUARE);
        BigInteger product = BigInteger.ONE;
        for (int voter = 0; voter < 30; voter++) {
            long c = GREATEST_SQUARE - 1 - 3L * voter;
            Expect.same("cast(" + voter + ", " + c + ")", tally.cast(voter, c), 1);
            product = product.multiply(BigInteger.valueOf(c)).mod(square);
            Expect.same("sum() after voter " + voter, tally.sum(), product.longValueExact());
        }
        tally.withdraw(0);
        product = product.multiply(BigInteger.valueOf(GREATEST_SQUARE - 1).modInverse(square)).mod(square);
        Expect.same("sum() after a withdrawal", tally.sum(), product.longValueExact());
        tally.cast(1, 1);
        product = product.multiply(BigInteger.valueOf(GREATEST_SQUARE - 4).modInverse(square)).mod(square);
        Expect.same("sum() after a replacement", tally.sum(), product.longValueExact());
        tally.close();
        Expect.same("sum() of the closed box", tally.sum(), product.longValueExact());
    }

    private static void promise16Close() {
        SealedTally tally = Make.boxed(2, 14);
        Expect.same("close() without ballots", tally.close(), 0);
        Expect.same("close() again", tally.close(), CLOSED);
        tally.open(2, 14);
        tally.cast(0, tally.choice(0, 2));
        tally.cast(1, tally.choice(1, 3));
        tally.cast(2, tally.choice(1, 5));
        Expect.same("close()", tally.close(), 29);
        Expect.same("close() a second time", tally.close(), CLOSED);
        tally.open(2, 14);
        tally.cast(0, tally.seal(220, 7));
        tally.cast(1, tally.seal(220, 9));
        Expect.same("close() with a TOTAL that goes around", tally.close(), 219);
    }

    private static void promise17Votes() {
        SealedTally tally = Make.boxed(3, 6);
        tally.cast(0, tally.choice(0, 2));
        tally.cast(1, tally.choice(2, 3));
        tally.cast(2, tally.choice(2, 5));
        tally.cast(3, tally.choice(0, 7));
        tally.cast(4, tally.choice(1, 9));
        Expect.same("votes(0) of an open box", tally.votes(0), NONE);
        Expect.same("votes(3) of an open box", tally.votes(3), BAD);
        Expect.same("votes(-1) of an open box", tally.votes(-1), BAD);
        tally.close();
        Expect.same("votes(0)", tally.votes(0), 2);
        Expect.same("votes(1)", tally.votes(1), 1);
        Expect.same("votes(2)", tally.votes(2), 2);
        for (int candidate : new int[] {Integer.MIN_VALUE, -1, 3, Integer.MAX_VALUE}) {
            Expect.same("votes(" + candidate + ")", tally.votes(candidate), BAD);
        }
        votesOfAnyTotal();
    }

    /** Ballots may hold any message, so a TOTAL may be above radix^candidates too. */
    private static void votesOfAnyTotal() {
        for (int m = 0; m < 221; m++) {
            SealedTally tally = Make.boxed(3, 6);
            tally.cast(9, tally.seal(m, 100));
            Expect.same("close() of " + m, tally.close(), m);
            Expect.same("votes(0) of " + m, tally.votes(0), m % 6);
            Expect.same("votes(1) of " + m, tally.votes(1), m / 6 % 6);
            Expect.same("votes(2) of " + m, tally.votes(2), m / 36 % 6);
        }
    }

    private static void promise18Witness() {
        SealedTally tally = Make.boxed(2, 14);
        Expect.same("witness() of an open box", tally.witness(), NONE);
        tally.cast(0, tally.choice(0, 100));
        tally.cast(1, tally.choice(1, 200));
        Expect.same("witness() of an open box with ballots", tally.witness(), NONE);
        long total = tally.close();
        Expect.same("witness()", tally.witness(), 100 * 200 % 221);
        Expect.same("sealing the TOTAL", tally.seal(total, tally.witness()), tally.sum());
        tally.open(1, 2);
        tally.close();
        Expect.same("witness() without ballots", tally.witness(), 1);
    }

    private static void promise19Check() {
        SealedTally tally = Make.boxed(2, 14);
        Expect.same("check(0, 1) without ballots", tally.check(0, 1), true);
        Expect.same("check(221, 1) without ballots", tally.check(221, 1), false);
        Expect.same("check(0, 222) without ballots", tally.check(0, 222), false);
        tally.cast(0, tally.choice(0, 100));
        tally.cast(1, tally.choice(1, 200));
        for (int turn = 0; turn < 2; turn++) {
            Expect.same("check(15, 110)", tally.check(15, 110), true);
            Expect.same("check(14, 110)", tally.check(14, 110), false);
            Expect.same("check(15, 109)", tally.check(15, 109), false);
            Expect.same("check(0, 1)", tally.check(0, 1), false);
            for (long far : new long[] {Long.MIN_VALUE, -1, 0, 13, 17, 221, Long.MAX_VALUE, 15 + 221, 15 - 221}) {
                Expect.same("check(" + far + ", 110)", tally.check(far, 110), false);
                Expect.same("check(15, " + far + ")", tally.check(15, far), false);
            }
            Expect.same("check(15, 110 + 221)", tally.check(15, 110 + 221), false);
            Expect.same("check(15, 110 - 221)", tally.check(15, 110 - 221), false);
            tally.close();
        }
    }
}
