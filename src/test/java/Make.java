/** Objects in the states that tests begin with. */
final class Make {
    private Make() {
    }

    static SealedTally keyed(int p, int q) {
        SealedTally tally = new SealedTally();
        Expect.same("key(" + p + ", " + q + ")", tally.key(p, q), p * q);
        return tally;
    }

    /** Key 13, 17 (N 221, N N 48841) with a box. */
    static SealedTally boxed(int candidates, int radix) {
        return boxed(13, 17, candidates, radix);
    }

    static SealedTally boxed(int p, int q, int candidates, int radix) {
        SealedTally tally = keyed(p, q);
        Expect.same("open(" + candidates + ", " + radix + ")", tally.open(candidates, radix), true);
        return tally;
    }
}
