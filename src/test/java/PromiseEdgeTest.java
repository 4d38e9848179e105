import java.math.BigInteger;

/** For each sentence of the promises that names an edge of its own (those of 'Terms' are in TermsEdgeTest). */
public final class PromiseEdgeTest {
    private static final int NO_KEY = SealedTally.NO_KEY;
    private static final int NO_BOX = SealedTally.NO_BOX;
    private static final int CLOSED = SealedTally.CLOSED;
    private static final int BAD = SealedTally.BAD;
    private static final int FULL = SealedTally.FULL;
    private static final int NONE = SealedTally.NONE;

    private static final int LEAST = Integer.MIN_VALUE;
    private static final int GREATEST = Integer.MAX_VALUE;
    private static final int[][] KEYS = {{3, 5}, {5, 3}, {13, 17}, {3, 227}, {227, 229}};

    public static void main(String[] args) {
        newObjectHasNoKey();
        newObjectHasNoBox();
        keyTakesAnOpenBoxAway();
        keyTakesAClosedBoxAway();
        sameKeyTakesTheBoxAway();
        badKeyKeepsTheOldOne();
        keyReckonsAnewUnderEachKey();
        modulusWithoutAKey();
        sealOfTheEdges();
        joinNeedsTwoSeals();
        powerOfZero();
        powerOfOne();
        powerBelowZero();
        powerOfTheLeastAndTheGreatest();
        powerGoesAround();
        openWithoutAKey();
        openInThePlaceOfAnOpenBox();
        openInThePlaceOfAClosedBox();
        refusedOpenKeepsTheBox();
        choiceOfTheFirstAndTheLast();
        choiceOfAClosedBox();
        castOfAFirstOne();
        castInThePlaceOfAnother();
        castLooksAtNoContents();
        castIntoAFullBox();
        withdrawOfTheOnlyOne();
        withdrawMakesRoom();
        withdrawFromAClosedBox();
        ballotOfAVoterWithoutOne();
        ballotInAClosedBox();
        ballotsFromNoneToThirty();
        sumGoesAround();
        closeOfAnEmptyBox();
        closeTwice();
        totalGoesAround();
        votesOfAnOpenBox();
        votesOfTheFirstAndTheLast();
        votesRoundDownAndGoAround();
        votesOfTheGreatestRadix();
        witnessOfAnOpenBox();
        witnessSealsTheSum();
        checkWithoutABox();
        checkOfAnOpenAndAClosedBox();
        checkTellsNeighboursApart();
        theLastCallIsAnswered();
        Expect.finish();
    }

    private static void newObjectHasNoKey() {
        Expect.under("Promise 1, 'No key'");
        SealedTally tally = new SealedTally();
        Expect.same("modulus()", tally.modulus(), 0);
        Expect.same("seal(0, 1)", tally.seal(0, 1), NO_KEY);
        Expect.same("message(1)", tally.message(1), NO_KEY);
        Expect.same("coin(1)", tally.coin(1), NO_KEY);
        Expect.same("join(1, 1)", tally.join(1, 1), NO_KEY);
        Expect.same("power(1, 0)", tally.power(1, 0), NO_KEY);
    }

    private static void newObjectHasNoBox() {
        Expect.under("Promise 1, 'no box'");
        hasNoBox(new SealedTally());
    }

    private static void hasNoBox(SealedTally tally) {
        Expect.same("choice(0, 1)", tally.choice(0, 1), NO_BOX);
        Expect.same("cast(0, 1)", tally.cast(0, 1), NO_BOX);
        Expect.same("withdraw(0)", tally.withdraw(0), NO_BOX);
        Expect.same("ballot(0)", tally.ballot(0), NO_BOX);
        Expect.same("ballots()", tally.ballots(), NO_BOX);
        Expect.same("sum()", tally.sum(), NO_BOX);
        Expect.same("close()", tally.close(), NO_BOX);
        Expect.same("votes(0)", tally.votes(0), NO_BOX);
        Expect.same("witness()", tally.witness(), NO_BOX);
        Expect.same("check(0, 1)", tally.check(0, 1), false);
    }

    private static void keyTakesAnOpenBoxAway() {
        Expect.under("Promise 2, 'there is no box any more', after an open one");
        SealedTally tally = Make.boxed(2, 4);
        tally.cast(3, 4);
        Expect.same("key(3, 5)", tally.key(3, 5), 15);
        hasNoBox(tally);
        Expect.same("open(1, 15)", tally.open(1, 15), true);
        Expect.same("ballots()", tally.ballots(), 0);
        Expect.same("ballot(3)", tally.ballot(3), NONE);
        Expect.same("sum()", tally.sum(), 1);
    }

    private static void keyTakesAClosedBoxAway() {
        Expect.under("Promise 2, 'there is no box any more', after a closed one");
        SealedTally tally = Make.boxed(2, 4);
        tally.cast(3, 4);
        tally.close();
        Expect.same("key(3, 5)", tally.key(3, 5), 15);
        hasNoBox(tally);
        Expect.same("open(1, 15)", tally.open(1, 15), true);
        Expect.same("witness()", tally.witness(), NONE);
        Expect.same("cast(3, 4)", tally.cast(3, 4), 1);
    }

    private static void sameKeyTakesTheBoxAway() {
        Expect.under("Promise 2, 'there is no box any more', with the same key again");
        SealedTally tally = Make.boxed(2, 4);
        Expect.same("key(13, 17)", tally.key(13, 17), 221);
        hasNoBox(tally);
        tally.open(2, 4);
        Expect.same("key(17, 13)", tally.key(17, 13), 221);
        hasNoBox(tally);
    }

    private static void badKeyKeepsTheOldOne() {
        Expect.under("Promise 2, 'BAD', with a key and a box");
        for (int[] bad : new int[][] {{13, 13}, {2, 17}, {13, 233}, {3, 7}, {7, 3}, {9, 17}, {LEAST, 17}, {13, GREATEST}}) {
            SealedTally tally = Make.boxed(2, 4);
            tally.cast(3, 4);
            Expect.same("key(" + bad[0] + ", " + bad[1] + ")", tally.key(bad[0], bad[1]), BAD);
            Expect.same("modulus()", tally.modulus(), 221);
            Expect.same("seal(1, 2)", tally.seal(1, 2), 4894);
            Expect.same("ballot(3)", tally.ballot(3), 4);
            Expect.same("sum()", tally.sum(), 4);
        }
    }

    private static void keyReckonsAnewUnderEachKey() {
        Expect.under("Promise 2, 'the key becomes the one of p and q'");
        SealedTally tally = new SealedTally();
        for (int turn = 0; turn < 2; turn++) {
            for (int[] key : KEYS) {
                int n = key[0] * key[1];
                long last = Reference.sealing(n, n - 1, n - 2);
                Expect.same("key(" + key[0] + ", " + key[1] + ")", tally.key(key[0], key[1]), n);
                Expect.same("seal(N - 1, N - 2)", tally.seal(n - 1, n - 2), last);
                Expect.same("message", tally.message(last), n - 1);
                Expect.same("coin", tally.coin(last), n - 2);
                Expect.same("message(N N)", tally.message((long) n * n), BAD);
            }
        }
    }

    private static void modulusWithoutAKey() {
        Expect.under("Promise 3, '0 when there is no key'");
        SealedTally tally = new SealedTally();
        Expect.same("modulus()", tally.modulus(), 0);
        tally.key(2, 3);
        tally.key(LEAST, GREATEST);
        Expect.same("modulus() after bad keys", tally.modulus(), 0);
        tally.key(3, 5);
        Expect.same("modulus() of the least key", tally.modulus(), 15);
    }

    private static void sealOfTheEdges() {
        Expect.under("Promise 4, the least and the greatest of both");
        for (int[] key : KEYS) {
            long n = (long) key[0] * key[1];
            SealedTally tally = Make.keyed(key[0], key[1]);
            Expect.same("seal(0, 1)", tally.seal(0, 1), 1);
            Expect.same("seal(1, 1)", tally.seal(1, 1), n + 1);
            Expect.same("seal(N - 1, 1)", tally.seal(n - 1, 1), n * n - n + 1);
            // N is odd: (-1)^N is -1, both by N N and by N.
            Expect.same("message(N N - 1)", tally.message(n * n - 1), 0);
            Expect.same("coin(N N - 1)", tally.coin(n * n - 1), n - 1);
            Expect.same("seal(0, N - 1)", tally.seal(0, n - 1), n * n - 1);
            Expect.same("seal(N - 1, N - 1)", tally.seal(n - 1, n - 1), n - 1);
        }
    }

    private static void joinNeedsTwoSeals() {
        Expect.under("Promise 7, 'BAD when c or d is not a SEAL'");
        SealedTally tally = Make.keyed(3, 5);
        Expect.same("join(1, 224)", tally.join(1, 224), 224);
        Expect.same("join(224, 1)", tally.join(224, 1), 224);
        for (long wrong : new long[] {Long.MIN_VALUE, -1, 0, 3, 5, 15, 222, 225, 226, Long.MAX_VALUE}) {
            Expect.same("join(" + wrong + ", 224)", tally.join(wrong, 224), BAD);
            Expect.same("join(224, " + wrong + ")", tally.join(224, wrong), BAD);
            Expect.same("join(" + wrong + ", " + wrong + ")", tally.join(wrong, wrong), BAD);
        }
    }

    private static long exactPower(int[] key, long c, int k) {
        BigInteger n = BigInteger.valueOf((long) key[0] * key[1]);
        return BigInteger.valueOf(c).modPow(BigInteger.valueOf(k), n.multiply(n)).longValueExact();
    }

    private static long[] someSeals(int[] key) {
        long n = (long) key[0] * key[1];
        return new long[] {1, 2, n - 1, n + 1, n * n - n + 1, n * n - 2, n * n - 1};
    }

    private static void powerOfZero() {
        Expect.under("Promise 8, '1 for k = 0'");
        for (int[] key : KEYS) {
            for (long c : someSeals(key)) {
                Expect.same("power(" + c + ", 0)", Make.keyed(key[0], key[1]).power(c, 0), 1);
            }
        }
    }

    private static void powerOfOne() {
        Expect.under("Promise 8, k = 1 and k = -1");
        for (int[] key : KEYS) {
            SealedTally tally = Make.keyed(key[0], key[1]);
            for (long c : someSeals(key)) {
                Expect.same("power(" + c + ", 1)", tally.power(c, 1), c);
                Expect.same("power(" + c + ", -1)", tally.power(c, -1), exactPower(key, c, -1));
                Expect.same("c and its power -1 for " + c, tally.join(c, tally.power(c, -1)), 1);
            }
        }
    }

    private static void powerBelowZero() {
        Expect.under("Promise 8, 'for k below 0 the SEAL whose PRODUCT with that of -k times c is 1'");
        for (int[] key : KEYS) {
            for (long c : someSeals(key)) {
                SealedTally tally = Make.keyed(key[0], key[1]);
                long product = 1;
                for (int k = 1; k <= 40; k++) {
                    product = tally.join(product, c);
                    Expect.same("power(" + c + ", " + k + ")", tally.power(c, k), product);
                    Expect.same("power(" + c + ", -" + k + ") and that", tally.join(tally.power(c, -k), product), 1);
                }
            }
        }
    }

    private static void powerOfTheLeastAndTheGreatest() {
        Expect.under("Promise 8, '-k exactly, for the least k, too'");
        for (int[] key : KEYS) {
            for (long c : someSeals(key)) {
                SealedTally tally = Make.keyed(key[0], key[1]);
                long half = tally.power(c, 1 << 30);
                long whole = tally.join(half, half);
                Expect.same("power(" + c + ", least) and 2^31 times c", tally.join(tally.power(c, LEAST), whole), 1);
                for (int k : new int[] {LEAST, LEAST + 1, LEAST + 2, GREATEST - 1, GREATEST}) {
                    Expect.same("power(" + c + ", " + k + ")", tally.power(c, k), exactPower(key, c, k));
                }
            }
        }
    }

    private static void powerGoesAround() {
        Expect.under("Promise 8, around the number of SEALS");
        for (int[] key : KEYS) {
            int seals = key[0] * key[1] * (key[0] - 1) * (key[1] - 1);
            // The greatest key has more SEALS than the greatest int: what is left of their number is as good as any k.
            int[] exponents = {seals - 1, seals, seals + 1, -seals - 1, -seals, 1 - seals, 2 * seals, 255, 256, 65535, 65536};
            for (long c : someSeals(key)) {
                SealedTally tally = Make.keyed(key[0], key[1]);
                for (int k : exponents) {
                    Expect.same("power(" + c + ", " + k + ")", tally.power(c, k), exactPower(key, c, k));
                }
            }
        }
    }

    private static void openWithoutAKey() {
        Expect.under("Promise 9, 'false when there is no key'");
        SealedTally tally = new SealedTally();
        for (int candidates = -1; candidates <= 7; candidates++) {
            for (int radix : new int[] {LEAST, 0, 1, 2, GREATEST}) {
                Expect.same("open(" + candidates + ", " + radix + ")", tally.open(candidates, radix), false);
            }
        }
        hasNoBox(tally);
    }

    private static void openInThePlaceOfAnOpenBox() {
        Expect.under("Promise 9, 'in the place of the one that was there', open");
        SealedTally tally = Make.boxed(2, 3);
        tally.cast(0, 4);
        tally.cast(29, 9);
        Expect.same("open(2, 3)", tally.open(2, 3), true);
        Expect.same("ballots()", tally.ballots(), 0);
        Expect.same("sum()", tally.sum(), 1);
        Expect.same("ballot(0)", tally.ballot(0), NONE);
        Expect.same("ballot(29)", tally.ballot(29), NONE);
        Expect.same("cast(0, 4)", tally.cast(0, 4), 1);
        Expect.same("cast(28, 4)", tally.cast(28, 4), 1);
        Expect.same("cast(29, 4)", tally.cast(29, 4), FULL);
        Expect.same("open(1, 2)", tally.open(1, 2), true);
        Expect.same("choice(1, 1)", tally.choice(1, 1), BAD);
        Expect.same("cast(0, 4) in a smaller box", tally.cast(0, 4), 1);
        Expect.same("cast(28, 4) in a smaller box", tally.cast(28, 4), FULL);
    }

    private static void openInThePlaceOfAClosedBox() {
        Expect.under("Promise 9, 'in the place of the one that was there', closed");
        SealedTally tally = Make.boxed(1, 2);
        tally.cast(0, 4);
        tally.close();
        Expect.same("open(2, 14)", tally.open(2, 14), true);
        Expect.same("witness()", tally.witness(), NONE);
        Expect.same("votes(1)", tally.votes(1), NONE);
        Expect.same("votes(2)", tally.votes(2), BAD);
        Expect.same("ballots()", tally.ballots(), 0);
        Expect.same("withdraw(0)", tally.withdraw(0), NONE);
        Expect.same("cast(0, 4)", tally.cast(0, 4), 1);
        Expect.same("withdraw(0) of the new one", tally.withdraw(0), 4);
        Expect.same("close()", tally.close(), 0);
        Expect.same("votes(0)", tally.votes(0), 0);
    }

    private static void refusedOpenKeepsTheBox() {
        Expect.under("Promise 9, 'false', with a box");
        for (int[] wrong : new int[][] {{0, 2}, {7, 2}, {1, 1}, {1, 222}, {2, 15}, {6, 3}, {LEAST, LEAST}, {GREATEST, GREATEST}}) {
            SealedTally tally = Make.boxed(2, 3);
            tally.cast(5, 4);
            Expect.same("open(" + wrong[0] + ", " + wrong[1] + ")", tally.open(wrong[0], wrong[1]), false);
            Expect.same("ballot(5)", tally.ballot(5), 4);
            Expect.same("choice(1, 1)", tally.choice(1, 1), 1 + 3 * 221);
            Expect.same("choice(2, 1)", tally.choice(2, 1), BAD);
            Expect.same("cast(6, 1)", tally.cast(6, 1), 1);
            Expect.same("cast(7, 1)", tally.cast(7, 1), FULL);
        }
    }

    private static void choiceOfTheFirstAndTheLast() {
        Expect.under("Promise 10, 'a candidate (0 .. candidates - 1)'");
        int[][] boxes = {{1, 51983}, {2, 227}, {3, 37}, {4, 15}, {5, 8}, {6, 6}, {6, 2}};
        for (int[] box : boxes) {
            SealedTally tally = Make.boxed(227, 229, box[0], box[1]);
            long power = 1;
            for (int candidate = 0; candidate < box[0]; candidate++) {
                Expect.same("choice(" + candidate + ", 1)", tally.choice(candidate, 1), 1 + power * 51983);
                Expect.same("message", tally.message(tally.choice(candidate, 51982)), power);
                Expect.same("coin", tally.coin(tally.choice(candidate, 51982)), 51982);
                power *= box[1];
            }
            for (int candidate : new int[] {-1, LEAST, box[0], box[0] + 1, GREATEST}) {
                Expect.same("choice(" + candidate + ", 1)", tally.choice(candidate, 1), BAD);
            }
        }
    }

    private static void choiceOfAClosedBox() {
        Expect.under("Promise 10, 'The box may be closed'");
        SealedTally tally = Make.boxed(2, 14);
        tally.close();
        Expect.same("choice(0, 1)", tally.choice(0, 1), 222);
        Expect.same("choice(1, 220)", tally.choice(1, 220), Reference.sealing(221, 14, 220));
        Expect.same("choice(2, 1)", tally.choice(2, 1), BAD);
        Expect.same("ballots()", tally.ballots(), 0);
    }

    private static void castOfAFirstOne() {
        Expect.under("Promise 11, '1 when it is the voter's first one in the box'");
        SealedTally tally = Make.boxed(1, 3);
        Expect.same("cast(0, 1)", tally.cast(0, 1), 1);
        tally.withdraw(0);
        Expect.same("cast(0, 1) after it was taken out", tally.cast(0, 1), 1);
        tally.open(1, 3);
        Expect.same("cast(0, 1) in another box", tally.cast(0, 1), 1);
    }

    private static void castInThePlaceOfAnother() {
        Expect.under("Promise 11, '0 when it takes the place of another'");
        SealedTally tally = Make.boxed(1, 3);
        tally.cast(29, 1);
        Expect.same("cast(29, 1) the same", tally.cast(29, 1), 0);
        Expect.same("cast(29, 48840)", tally.cast(29, 48840), 0);
        Expect.same("ballot(29)", tally.ballot(29), 48840);
        Expect.same("ballots()", tally.ballots(), 1);
        Expect.same("sum()", tally.sum(), 48840);
    }

    private static void castLooksAtNoContents() {
        Expect.under("Promise 11, 'any SEAL; what is in it is not looked at'");
        for (long m : new long[] {0, 1, 2, 13, 196, 219, 220}) {
            SealedTally tally = Make.boxed(2, 14);
            Expect.same("cast of " + m, tally.cast(0, tally.seal(m, 220)), 1);
            Expect.same("close()", tally.close(), m);
        }
        SealedTally tally = Make.boxed(2, 14);
        Expect.same("cast(0, 4)", tally.cast(0, 4), 1);
        Expect.same("cast(1, 4), the SEAL of another", tally.cast(1, 4), 1);
        Expect.same("sum()", tally.sum(), 16);
    }

    private static void castIntoAFullBox() {
        Expect.under("Promise 11, 'FULL when the voter has none and radix - 1 ballots are there'");
        for (int radix : new int[] {2, 3, 29, 30}) {
            SealedTally tally = Make.boxed(1, radix);
            for (int voter = 0; voter < radix - 2; voter++) {
                tally.cast(voter, 4);
            }
            Expect.same("radix " + radix + ": the last that goes in", tally.cast(28, 4), 1);
            Expect.same("radix " + radix + ": one more", tally.cast(29, 4), FULL);
            Expect.same("radix " + radix + ": ballot(29)", tally.ballot(29), NONE);
            Expect.same("radix " + radix + ": one in the place of another", tally.cast(28, 9), 0);
            Expect.same("radix " + radix + ": ballots()", tally.ballots(), radix - 1);
            tally.withdraw(28);
            Expect.same("radix " + radix + ": one more when there is room", tally.cast(29, 4), 1);
            Expect.same("radix " + radix + ": the former one", tally.cast(28, 4), FULL);
        }
    }

    private static void withdrawOfTheOnlyOne() {
        Expect.under("Promise 12, 'NONE when the voter has no ballot'");
        SealedTally tally = Make.boxed(1, 3);
        Expect.same("withdraw(0) at first", tally.withdraw(0), NONE);
        tally.cast(0, 48840);
        Expect.same("withdraw(1)", tally.withdraw(1), NONE);
        Expect.same("withdraw(0)", tally.withdraw(0), 48840);
        Expect.same("withdraw(0) again", tally.withdraw(0), NONE);
        Expect.same("ballots()", tally.ballots(), 0);
        Expect.same("ballot(0)", tally.ballot(0), NONE);
        Expect.same("sum()", tally.sum(), 1);
    }

    private static void withdrawMakesRoom() {
        Expect.under("Promise 12, 'taken out of the box', from a full one");
        SealedTally tally = Make.boxed(1, 31);
        for (int voter = 0; voter < 30; voter++) {
            tally.cast(voter, 2 + 221 * voter);
        }
        for (int voter = 29; voter >= 0; voter--) {
            Expect.same("withdraw(" + voter + ")", tally.withdraw(voter), 2 + 221 * voter);
            Expect.same("ballots()", tally.ballots(), voter);
        }
        Expect.same("sum()", tally.sum(), 1);
        Expect.same("cast(7, 5)", tally.cast(7, 5), 1);
        Expect.same("sum() of one", tally.sum(), 5);
    }

    private static void withdrawFromAClosedBox() {
        Expect.under("Promise 12, 'CLOSED when the box is closed'");
        SealedTally tally = Make.boxed(1, 3);
        tally.cast(0, 9);
        tally.close();
        Expect.same("withdraw(0)", tally.withdraw(0), CLOSED);
        Expect.same("ballot(0)", tally.ballot(0), 9);
        Expect.same("ballots()", tally.ballots(), 1);
        Expect.same("sum()", tally.sum(), 9);
    }

    private static void ballotOfAVoterWithoutOne() {
        Expect.under("Promise 13, 'NONE when the voter has no ballot'");
        SealedTally tally = Make.boxed(1, 3);
        Expect.same("ballot(0)", tally.ballot(0), NONE);
        tally.cast(0, 1);
        Expect.same("ballot(0) of 1", tally.ballot(0), 1);
        Expect.same("ballot(1)", tally.ballot(1), NONE);
        Expect.same("ballot(29)", tally.ballot(29), NONE);
        tally.withdraw(0);
        Expect.same("ballot(0) taken out", tally.ballot(0), NONE);
    }

    private static void ballotInAClosedBox() {
        Expect.under("Promise 13, in a closed box");
        SealedTally tally = Make.boxed(1, 3);
        tally.cast(29, 48840);
        tally.close();
        Expect.same("ballot(29)", tally.ballot(29), 48840);
        Expect.same("ballot(28)", tally.ballot(28), NONE);
        Expect.same("ballot(30)", tally.ballot(30), BAD);
        Expect.same("ballot(-1)", tally.ballot(-1), BAD);
    }

    private static void ballotsFromNoneToThirty() {
        Expect.under("Promise 14, 'How many ballots are in the box'");
        SealedTally tally = Make.boxed(1, 221);
        Expect.same("ballots() at first", tally.ballots(), 0);
        for (int voter = 29; voter >= 0; voter--) {
            tally.cast(voter, 4);
            Expect.same("ballots()", tally.ballots(), 30 - voter);
        }
        tally.cast(0, 9);
        tally.cast(30, 9);
        tally.withdraw(-1);
        Expect.same("ballots() of all", tally.ballots(), 30);
        tally.close();
        Expect.same("ballots() of the closed box", tally.ballots(), 30);
    }

    private static void sumGoesAround() {
        Expect.under("Promise 15, a PRODUCT that goes around");
        SealedTally tally = Make.boxed(227, 229, 1, 31);
        long last = 51983L * 51983L - 1;
        for (int voter = 0; voter < 30; voter++) {
            tally.cast(voter, last);
            Expect.same("sum() of " + (voter + 1), tally.sum(), voter % 2 == 0 ? last : 1);
        }
        Expect.same("close()", tally.close(), 0);
        Expect.same("witness()", tally.witness(), 1);
    }

    private static void closeOfAnEmptyBox() {
        Expect.under("Promise 16, the TOTAL without ballots");
        SealedTally tally = Make.boxed(6, 2);
        Expect.same("close()", tally.close(), 0);
        for (int candidate = 0; candidate < 6; candidate++) {
            Expect.same("votes(" + candidate + ")", tally.votes(candidate), 0);
        }
        Expect.same("witness()", tally.witness(), 1);
    }

    private static void closeTwice() {
        Expect.under("Promise 16, 'CLOSED when it is closed already'");
        SealedTally tally = Make.boxed(2, 14);
        tally.cast(0, tally.seal(29, 7));
        Expect.same("close()", tally.close(), 29);
        Expect.same("close() again", tally.close(), CLOSED);
        Expect.same("votes(0)", tally.votes(0), 1);
        Expect.same("votes(1)", tally.votes(1), 2);
        Expect.same("witness()", tally.witness(), 7);
        Expect.same("close() once more", tally.close(), CLOSED);
    }

    private static void totalGoesAround() {
        Expect.under("Promise 16, a TOTAL that goes around");
        for (int[] key : KEYS) {
            int n = key[0] * key[1];
            for (int second : new int[] {0, 1, 2, n - 2, n - 1}) {
                SealedTally tally = Make.boxed(key[0], key[1], 1, n);
                tally.cast(0, tally.seal(n - 1, 2));
                tally.cast(1, tally.seal(second, n - 1));
                Expect.same("close() of N - 1 and " + second, tally.close(), (n - 1 + second) % n);
                Expect.same("votes(0)", tally.votes(0), (n - 1 + second) % n);
            }
        }
    }

    private static void votesOfAnOpenBox() {
        Expect.under("Promise 17, 'NONE when the box is open'");
        SealedTally tally = Make.boxed(2, 14);
        Expect.same("votes(0) at first", tally.votes(0), NONE);
        tally.cast(0, 4);
        Expect.same("votes(0)", tally.votes(0), NONE);
        Expect.same("votes(1)", tally.votes(1), NONE);
        tally.close();
        tally.open(2, 14);
        Expect.same("votes(1) of another box", tally.votes(1), NONE);
    }

    private static void votesOfTheFirstAndTheLast() {
        Expect.under("Promise 17, 'BAD when there is no such candidate'");
        for (int candidates = 1; candidates <= 6; candidates++) {
            SealedTally tally = Make.boxed(candidates, 2);
            tally.cast(0, tally.choice(candidates - 1, 2));
            tally.close();
            for (int candidate = 0; candidate < candidates; candidate++) {
                Expect.same("votes(" + candidate + ")", tally.votes(candidate), candidate == candidates - 1 ? 1 : 0);
            }
            for (int wrong : new int[] {LEAST, -1, candidates, candidates + 1, GREATEST}) {
                Expect.same("votes(" + wrong + ")", tally.votes(wrong), BAD);
            }
        }
    }

    /** The remainder by radix is also of a TOTAL that is radix^candidates or more. */
    private static void votesRoundDownAndGoAround() {
        Expect.under("Promise 17, 'rounded down, and of this the remainder by radix'");
        int[][] due = {{0, 0, 0}, {13, 13, 0}, {14, 0, 1}, {15, 1, 1}, {27, 13, 1}, {28, 0, 2}, {195, 13, 13}, {196, 0, 0},
            {197, 1, 0}, {209, 13, 0}, {210, 0, 1}, {220, 10, 1}};
        for (int[] row : due) {
            SealedTally tally = Make.boxed(2, 14);
            tally.cast(17, tally.seal(row[0], 220));
            Expect.same("close()", tally.close(), row[0]);
            Expect.same("votes(0) of " + row[0], tally.votes(0), row[1]);
            Expect.same("votes(1) of " + row[0], tally.votes(1), row[2]);
        }
    }

    private static void votesOfTheGreatestRadix() {
        Expect.under("Promise 17, radix N");
        SealedTally tally = Make.boxed(227, 229, 1, 51983);
        tally.cast(0, tally.seal(51982, 2));
        Expect.same("close()", tally.close(), 51982);
        Expect.same("votes(0)", tally.votes(0), 51982);
        Expect.same("votes(1)", tally.votes(1), BAD);
    }

    private static void witnessOfAnOpenBox() {
        Expect.under("Promise 18, 'NONE when the box is open'");
        SealedTally tally = Make.boxed(2, 14);
        Expect.same("witness() at first", tally.witness(), NONE);
        tally.cast(0, 4);
        Expect.same("witness()", tally.witness(), NONE);
        tally.close();
        Expect.same("witness() closed", tally.witness(), tally.coin(4));
        tally.open(2, 14);
        Expect.same("witness() of another box", tally.witness(), NONE);
    }

    private static void witnessSealsTheSum() {
        Expect.under("Promise 18, 'with which sealing the TOTAL gives the SUM'");
        for (int[] key : KEYS) {
            int n = key[0] * key[1];
            for (long c : someSeals(key)) {
                SealedTally tally = Make.boxed(key[0], key[1], 1, 3);
                tally.cast(0, c);
                tally.cast(29, (long) n * n - 2);
                long total = tally.close();
                Expect.same("sealing the TOTAL", Reference.sealing(n, total, tally.witness()), tally.sum());
                Expect.same("is a coin", tally.witness() >= 1 && tally.witness() < n, true);
            }
        }
    }

    private static void checkWithoutABox() {
        Expect.under("Promise 19, 'false also when there is no box'");
        Expect.same("check(0, 1) without a key", new SealedTally().check(0, 1), false);
        Expect.same("check(0, 0) without a key", new SealedTally().check(0, 0), false);
        Expect.same("check(0, 1) with a key", Make.keyed(3, 5).check(0, 1), false);
        SealedTally tally = Make.boxed(1, 2);
        Expect.same("check(0, 1) with a box", tally.check(0, 1), true);
        tally.key(13, 17);
        Expect.same("check(0, 1) when the box is away", tally.check(0, 1), false);
    }

    private static void checkOfAnOpenAndAClosedBox() {
        Expect.under("Promise 19, 'The box may be open'");
        SealedTally tally = Make.boxed(2, 14);
        tally.cast(0, tally.seal(220, 219));
        Expect.same("check(220, 219) open", tally.check(220, 219), true);
        Expect.same("close()", tally.close(), 220);
        Expect.same("check(220, 219) closed", tally.check(220, 219), true);
        Expect.same("check(219, 220) closed", tally.check(219, 220), false);
    }

    private static void checkTellsNeighboursApart() {
        Expect.under("Promise 19, 'Whether sealing m with the coin r gives the SUM'");
        for (long m = 0; m < 15; m++) {
            SealedTally tally = Make.boxed(3, 5, 1, 2);
            tally.cast(0, tally.seal(7, 8));
            for (long r = 0; r <= 15; r++) {
                Expect.same("check(" + m + ", " + r + ")", tally.check(m, r), m == 7 && r == 8);
            }
        }
    }

    private static void theLastCallIsAnswered() {
        Expect.under("'at most 512 calls after it has been made'");
        SealedTally tally = new SealedTally();
        tally.key(229, 227);
        tally.open(1, 31);
        for (int call = 3; call <= 510; call++) {
            tally.cast(call % 30, 1 + 51983L * call);
        }
        long due = 0;
        for (int call = 481; call <= 510; call++) {
            due += call;
        }
        Expect.same("call 511, ballots()", tally.ballots(), 30);
        Expect.same("call 512, close()", tally.close(), due);
    }
}
