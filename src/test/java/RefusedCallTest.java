import java.util.List;
import java.util.function.Supplier;

/**
 * 'A call that answers a code below 0, or false, changes nothing': in each state, each method is
 * called with the values at its edges, and what the call leaves is held against a twin that was
 * never called. A call that only looks leaves the same, whatever it answers.
 */
public final class RefusedCallTest {
    private static final List<EdgeCalls.Call> CALLS = EdgeCalls.all();

    private static int refusals = 0;

    public static void main(String[] args) {
        inState("a new object", SealedTally::new, Reference::new);
        inState("a refused first key", () -> run(new SealedTally(), x -> x.key(3, 7)), Reference::new);
        inState("a key", () -> Make.keyed(13, 17), () -> told(0, 0, 0, false));
        inState("a key that took a box away", () -> run(closed(2, 14, 2), x -> x.key(13, 17)), () -> told(0, 0, 0, false));
        inState("an empty box", () -> open(2, 14, 0), () -> told(2, 14, 0, false));
        inState("a box with ballots", () -> open(3, 6, 2), () -> told(3, 6, 2, false));
        inState("a full box", () -> open(3, 4, 3), () -> told(3, 4, 3, false));
        inState("a full box of one", () -> open(6, 2, 1), () -> told(6, 2, 1, false));
        inState("a box of thirty", () -> open(1, 221, 30), () -> told(1, 221, 30, false));
        inState("an empty closed box", () -> closed(2, 14, 0), () -> told(2, 14, 0, true));
        inState("a closed box", () -> closed(3, 6, 2), () -> told(3, 6, 2, true));
        inState("a full closed box", () -> closed(3, 4, 3), () -> told(3, 4, 3, true));
        Expect.under("this test");
        Expect.same("has met refusals", refusals > 5000, true);
        Expect.finish();
    }

    private interface Step {
        void on(SealedTally tally);
    }

    private static SealedTally run(SealedTally tally, Step step) {
        step.on(tally);
        return tally;
    }

    private static SealedTally open(int candidates, int radix, int ballots) {
        SealedTally tally = Make.boxed(candidates, radix);
        for (int voter = 0; voter < ballots; voter++) {
            tally.cast(voter, 4 + 221 * voter);
        }
        return tally;
    }

    private static SealedTally closed(int candidates, int radix, int ballots) {
        return run(open(candidates, radix, ballots), SealedTally::close);
    }

    private static Reference told(int candidates, int radix, int ballots, boolean closed) {
        Reference reference = new Reference();
        reference.key(13, 17);
        reference.open(candidates, radix);
        for (int voter = 0; voter < ballots; voter++) {
            reference.cast(voter, 4 + 221 * voter);
        }
        if (closed) {
            reference.close();
        }
        return reference;
    }

    private static void inState(String state, Supplier<SealedTally> made, Supplier<Reference> told) {
        Expect.under("In " + state);
        List<Long> untouched = Whole.of(made.get());
        for (EdgeCalls.Call call : CALLS) {
            SealedTally tally = made.get();
            long due = call.told().applyAsLong(told.get());
            Expect.same(call.text(), call.real().applyAsLong(tally), due);
            boolean refused = due < 0 || call.text().startsWith("open") && due == 0;
            refusals += refused ? 1 : 0;
            if (refused || call.look()) {
                Expect.same(call.text() + " has changed nothing", Whole.of(tally).equals(untouched), true);
            }
        }
    }
}
