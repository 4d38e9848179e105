import java.util.ArrayList;
import java.util.List;

/**
 * The whole state of an object as it can be seen from outside: what it answers to every look, and
 * then to a run of calls that shows what no look shows (how many ballots the box still takes, what
 * closing it gives). The object is used up by it: some 200 calls.
 */
final class Whole {
    private final SealedTally tally;
    private final List<Long> answers = new ArrayList<>();

    private Whole(SealedTally tally) {
        this.tally = tally;
    }

    static List<Long> of(SealedTally tally) {
        Whole whole = new Whole(tally);
        whole.look();
        whole.fill();
        whole.look();
        whole.answers.add(tally.close());
        whole.look();
        whole.anotherBox();
        return whole.answers;
    }

    private void look() {
        add(tally.modulus(), tally.seal(1, 2), tally.message(4), tally.coin(4), tally.join(4, 7), tally.power(2, -1));
        add(tally.ballots(), tally.sum(), tally.witness(), tally.check(0, 1) ? 1 : 0);
        for (int voter = 0; voter < 30; voter++) {
            add(tally.ballot(voter));
        }
        for (int candidate = 0; candidate < 7; candidate++) {
            add(tally.votes(candidate), tally.choice(candidate, 2));
        }
    }

    /** As many ballots as go in, each of them another SEAL. */
    private void fill() {
        for (int voter = 29; voter >= 0; voter--) {
            add(tally.cast(voter, 1L << voter % 7));
        }
    }

    /** What a box leaves behind must not be seen in the next one. */
    private void anotherBox() {
        add(tally.open(1, 5) ? 1 : 0);
        add(tally.ballots(), tally.sum(), tally.witness(), tally.withdraw(0), tally.cast(0, 2), tally.close());
    }

    private void add(long... more) {
        for (long answer : more) {
            answers.add(answer);
        }
    }
}
