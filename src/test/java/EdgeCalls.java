import java.util.ArrayList;
import java.util.List;
import java.util.function.ToLongFunction;

/** Every method with the values at each edge of its arguments, for the key 13, 17. */
final class EdgeCalls {
    /** A call on the class and the same one on the reference; a boolean counts 1 or 0. */
    record Call(String text, boolean look, ToLongFunction<SealedTally> real, ToLongFunction<Reference> told) {
    }

    private static final long[] MESSAGES = {Long.MIN_VALUE, -221, -1, 0, 1, 36, 220, 221, 222, 1L << 32, Long.MAX_VALUE};
    private static final long[] COINS = {Long.MIN_VALUE, -1, 0, 1, 2, 13, 17, 204, 208, 220, 221, 222, (1L << 32) + 1, Long.MAX_VALUE};
    private static final long[] SEALS = {Long.MIN_VALUE, -1, 0, 1, 4, 13, 17, 220, 221, 222, 48824, 48828, 48840, 48841, 48842,
        (1L << 32) + 1, Long.MAX_VALUE};
    private static final int[] EXPONENTS = {Integer.MIN_VALUE, -1, 0, 1, Integer.MAX_VALUE};
    private static final int[] CANDIDATES = {Integer.MIN_VALUE, -1, 0, 1, 2, 3, 5, 6, 7, Integer.MAX_VALUE};
    private static final int[] RADICES = {Integer.MIN_VALUE, -1, 0, 1, 2, 3, 6, 7, 14, 15, 221, 222, 65536, Integer.MAX_VALUE};
    private static final int[] VOTERS = {Integer.MIN_VALUE, -1, 0, 1, 2, 28, 29, 30, Integer.MAX_VALUE};
    private static final int[] PRIMES = {Integer.MIN_VALUE, -3, 0, 1, 2, 3, 5, 7, 9, 13, 17, 227, 229, 230, 233, Integer.MAX_VALUE};

    private final List<Call> calls = new ArrayList<>();

    private EdgeCalls() {
    }

    static List<Call> all() {
        EdgeCalls edges = new EdgeCalls();
        edges.withoutArguments();
        edges.keys();
        edges.messagesAndCoins();
        edges.seals();
        edges.boxes();
        edges.voters();
        return edges.calls;
    }

    private void look(String text, ToLongFunction<SealedTally> real, ToLongFunction<Reference> told) {
        calls.add(new Call(text, true, real, told));
    }

    private void change(String text, ToLongFunction<SealedTally> real, ToLongFunction<Reference> told) {
        calls.add(new Call(text, false, real, told));
    }

    private void withoutArguments() {
        look("modulus()", x -> x.modulus(), x -> x.modulus());
        look("ballots()", x -> x.ballots(), x -> x.ballots());
        look("sum()", x -> x.sum(), x -> x.sum());
        look("witness()", x -> x.witness(), x -> x.witness());
        change("close()", x -> x.close(), x -> x.close());
    }

    private void keys() {
        for (int p : PRIMES) {
            for (int q : PRIMES) {
                change("key(" + p + ", " + q + ")", x -> x.key(p, q), x -> x.key(p, q));
            }
        }
    }

    private void messagesAndCoins() {
        for (long r : COINS) {
            for (long m : MESSAGES) {
                look("seal(" + m + ", " + r + ")", x -> x.seal(m, r), x -> x.seal(m, r));
                look("check(" + m + ", " + r + ")", x -> x.check(m, r) ? 1 : 0, x -> x.check(m, r) ? 1 : 0);
            }
            for (int candidate : CANDIDATES) {
                look("choice(" + candidate + ", " + r + ")", x -> x.choice(candidate, r), x -> x.choice(candidate, r));
            }
        }
    }

    private void seals() {
        for (long c : SEALS) {
            look("message(" + c + ")", x -> x.message(c), x -> x.message(c));
            look("coin(" + c + ")", x -> x.coin(c), x -> x.coin(c));
            for (long d : SEALS) {
                look("join(" + c + ", " + d + ")", x -> x.join(c, d), x -> x.join(c, d));
            }
            for (int k : EXPONENTS) {
                look("power(" + c + ", " + k + ")", x -> x.power(c, k), x -> x.power(c, k));
            }
            for (int voter : VOTERS) {
                change("cast(" + voter + ", " + c + ")", x -> x.cast(voter, c), x -> x.cast(voter, c));
            }
        }
    }

    private void boxes() {
        for (int candidates : CANDIDATES) {
            look("votes(" + candidates + ")", x -> x.votes(candidates), x -> x.votes(candidates));
            for (int radix : RADICES) {
                change("open(" + candidates + ", " + radix + ")",
                        x -> x.open(candidates, radix) ? 1 : 0, x -> x.open(candidates, radix) ? 1 : 0);
            }
        }
    }

    private void voters() {
        for (int voter : VOTERS) {
            look("ballot(" + voter + ")", x -> x.ballot(voter), x -> x.ballot(voter));
            change("withdraw(" + voter + ")", x -> x.withdraw(voter), x -> x.withdraw(voter));
        }
    }
}
