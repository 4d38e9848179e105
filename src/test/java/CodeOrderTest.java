/** 'Where several codes would do, the one that its comment names first is answered.' */
public final class CodeOrderTest {
    private static final int NO_KEY = SealedTally.NO_KEY;
    private static final int NO_BOX = SealedTally.NO_BOX;
    private static final int CLOSED = SealedTally.CLOSED;
    private static final int BAD = SealedTally.BAD;
    private static final int FULL = SealedTally.FULL;
    private static final int NONE = SealedTally.NONE;

    private static final long[] WRONG_LONGS = {Long.MIN_VALUE, -1, 0, 13, 48841, Long.MAX_VALUE};
    private static final int[] WRONG_VOTERS = {Integer.MIN_VALUE, -1, 30, Integer.MAX_VALUE};
    private static final int[] WRONG_CANDIDATES = {Integer.MIN_VALUE, -1, 3, 6, Integer.MAX_VALUE};

    public static void main(String[] args) {
        noKeyBeforeBad(new SealedTally());
        noBoxBeforeAll("no key", new SealedTally());
        noBoxBeforeAll("a key", Make.keyed(13, 17));
        SealedTally closedOnce = Make.boxed(3, 2);
        closedOnce.cast(0, 1);
        closedOnce.close();
        closedOnce.key(13, 17);
        noBoxBeforeAll("a key after a full and closed box", closedOnce);
        castClosedBeforeBad();
        castClosedBeforeFull();
        castBadBeforeFull();
        withdrawClosedBeforeBad();
        withdrawClosedBeforeNone();
        withdrawBadBeforeNone();
        ballotBadBeforeNone();
        votesBadBeforeNone();
        choiceIsBadForEachReason();
        Expect.finish();
    }

    private static void noKeyBeforeBad(SealedTally tally) {
        Expect.under("Promises 4 to 8, NO_KEY before BAD");
        for (long wrong : WRONG_LONGS) {
            Expect.same("seal(" + wrong + ", 1)", tally.seal(wrong, 1), NO_KEY);
            Expect.same("seal(0, " + wrong + ")", tally.seal(0, wrong), NO_KEY);
            Expect.same("message(" + wrong + ")", tally.message(wrong), NO_KEY);
            Expect.same("coin(" + wrong + ")", tally.coin(wrong), NO_KEY);
            Expect.same("join(" + wrong + ", 1)", tally.join(wrong, 1), NO_KEY);
            Expect.same("join(1, " + wrong + ")", tally.join(1, wrong), NO_KEY);
            Expect.same("power(" + wrong + ", 0)", tally.power(wrong, 0), NO_KEY);
            Expect.same("power(" + wrong + ", least)", tally.power(wrong, Integer.MIN_VALUE), NO_KEY);
        }
    }

    private static void noBoxBeforeAll(String state, SealedTally tally) {
        Expect.under("Promises 10 to 18, NO_BOX before all, with " + state);
        for (long wrong : WRONG_LONGS) {
            Expect.same("choice(0, " + wrong + ")", tally.choice(0, wrong), NO_BOX);
            Expect.same("cast(0, " + wrong + ")", tally.cast(0, wrong), NO_BOX);
        }
        for (int wrong : WRONG_VOTERS) {
            Expect.same("cast(" + wrong + ", 1)", tally.cast(wrong, 1), NO_BOX);
            Expect.same("withdraw(" + wrong + ")", tally.withdraw(wrong), NO_BOX);
            Expect.same("ballot(" + wrong + ")", tally.ballot(wrong), NO_BOX);
        }
        for (int wrong : WRONG_CANDIDATES) {
            Expect.same("choice(" + wrong + ", 1)", tally.choice(wrong, 1), NO_BOX);
            Expect.same("votes(" + wrong + ")", tally.votes(wrong), NO_BOX);
        }
        Expect.same("choice(0, 1)", tally.choice(0, 1), NO_BOX);
        Expect.same("cast(1, 1)", tally.cast(1, 1), NO_BOX);
        Expect.same("withdraw(1)", tally.withdraw(1), NO_BOX);
        Expect.same("ballot(1)", tally.ballot(1), NO_BOX);
        Expect.same("votes(0)", tally.votes(0), NO_BOX);
        Expect.same("close()", tally.close(), NO_BOX);
        Expect.same("witness()", tally.witness(), NO_BOX);
        Expect.same("ballots()", tally.ballots(), NO_BOX);
        Expect.same("sum()", tally.sum(), NO_BOX);
    }

    /** Three candidates, and one ballot, which fills the box: that of voter 0. */
    private static SealedTally fullBox() {
        SealedTally tally = Make.boxed(3, 2);
        Expect.same("cast(0, 4)", tally.cast(0, 4), 1);
        return tally;
    }

    private static SealedTally closedFullBox() {
        SealedTally tally = fullBox();
        tally.close();
        return tally;
    }

    private static void castClosedBeforeBad() {
        Expect.under("Promise 11, CLOSED before BAD");
        SealedTally tally = closedFullBox();
        for (int voter : WRONG_VOTERS) {
            Expect.same("cast(" + voter + ", 1)", tally.cast(voter, 1), CLOSED);
            Expect.same("cast(" + voter + ", 0)", tally.cast(voter, 0), CLOSED);
        }
        for (long c : WRONG_LONGS) {
            Expect.same("cast(0, " + c + ")", tally.cast(0, c), CLOSED);
            Expect.same("cast(1, " + c + ")", tally.cast(1, c), CLOSED);
        }
    }

    private static void castClosedBeforeFull() {
        Expect.under("Promise 11, CLOSED before FULL");
        Expect.same("cast(1, 4)", closedFullBox().cast(1, 4), CLOSED);
    }

    private static void castBadBeforeFull() {
        Expect.under("Promise 11, BAD before FULL");
        SealedTally tally = fullBox();
        for (int voter : WRONG_VOTERS) {
            Expect.same("cast(" + voter + ", 1)", tally.cast(voter, 1), BAD);
        }
        for (long c : WRONG_LONGS) {
            Expect.same("cast(1, " + c + ")", tally.cast(1, c), BAD);
        }
        Expect.same("cast(1, 1)", tally.cast(1, 1), FULL);
    }

    private static void withdrawClosedBeforeBad() {
        Expect.under("Promise 12, CLOSED before BAD");
        SealedTally tally = closedFullBox();
        for (int voter : WRONG_VOTERS) {
            Expect.same("withdraw(" + voter + ")", tally.withdraw(voter), CLOSED);
        }
    }

    private static void withdrawClosedBeforeNone() {
        Expect.under("Promise 12, CLOSED before NONE");
        Expect.same("withdraw(1)", closedFullBox().withdraw(1), CLOSED);
        Expect.same("withdraw(29)", closedFullBox().withdraw(29), CLOSED);
    }

    private static void withdrawBadBeforeNone() {
        Expect.under("Promise 12, BAD before NONE");
        SealedTally tally = Make.boxed(3, 2);
        for (int voter : WRONG_VOTERS) {
            Expect.same("withdraw(" + voter + ")", tally.withdraw(voter), BAD);
        }
        Expect.same("withdraw(29)", tally.withdraw(29), NONE);
    }

    private static void ballotBadBeforeNone() {
        Expect.under("Promise 13, BAD before NONE");
        for (SealedTally tally : new SealedTally[] {Make.boxed(3, 2), fullBox(), closedFullBox()}) {
            for (int voter : WRONG_VOTERS) {
                Expect.same("ballot(" + voter + ")", tally.ballot(voter), BAD);
            }
            Expect.same("ballot(29)", tally.ballot(29), NONE);
        }
    }

    private static void votesBadBeforeNone() {
        Expect.under("Promise 17, BAD before NONE");
        SealedTally tally = fullBox();
        for (int candidate : WRONG_CANDIDATES) {
            Expect.same("votes(" + candidate + ")", tally.votes(candidate), BAD);
        }
        Expect.same("votes(2)", tally.votes(2), NONE);
    }

    private static void choiceIsBadForEachReason() {
        Expect.under("Promise 10, BAD for a candidate, a coin, or both, whether the box is closed or not");
        for (SealedTally tally : new SealedTally[] {fullBox(), closedFullBox()}) {
            for (int candidate : WRONG_CANDIDATES) {
                Expect.same("choice(" + candidate + ", 1)", tally.choice(candidate, 1), BAD);
                Expect.same("choice(" + candidate + ", 0)", tally.choice(candidate, 0), BAD);
            }
            for (long r : WRONG_LONGS) {
                Expect.same("choice(0, " + r + ")", tally.choice(0, r), BAD);
            }
        }
    }
}
