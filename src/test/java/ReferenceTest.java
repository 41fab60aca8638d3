import java.util.Random;

/**
 * Holds every answer about positions against the plain Reference: all positions of the boards of
 * four and five squares a side, and many of the larger boards, whose counts are all compared.
 */
public final class ReferenceTest {
    private final Answers answers = new Answers();
    private final Reference due;
    private final Pool pool = new Pool();

    private ReferenceTest(int n) {
        due = new Reference(n);
    }

    public static void main(String[] args) {
        for (int n = 4; n <= 8; n++) {
            ReferenceTest test = new ReferenceTest(n);
            test.compareCounts();
            test.compareAttacks();
            if (n <= 5) {
                test.compareAllPositions();
            } else {
                test.compareSomePositions(30_000);
            }
            test.answers.end("ReferenceTest, N = " + n);
        }
    }

    private EndTables object(int callsNeeded) {
        return pool.object(due.n, callsNeeded);
    }

    private void compareCounts() {
        for (int man = 1; man <= 5; man++) {
            for (int d = -2; d <= 130; d++) {
                for (int side = 0; side < 2; side++) {
                    EndTables x = object(1);
                    int m = man;
                    int distance = d;
                    boolean strongMoves = side == 1;
                    answers.due("count(" + man + ", " + strongMoves + ", " + d + ")",
                            () -> x.count(m, strongMoves, distance), due.count(m, strongMoves, d));
                }
            }
            EndTables x = object(1);
            int m = man;
            answers.due("longest(" + man + ")", () -> x.longest(m), due.longest(man));
        }
    }

    private void compareAttacks() {
        Random random = new Random(7);
        int rounds = 60_000;
        for (int k = 0; k < rounds; k++) {
            int man = 1 + random.nextInt(5);
            int s = random.nextInt(due.squares);
            int p = random.nextInt(due.squares);
            int w = random.nextInt(due.squares);
            int square = random.nextInt(due.squares);
            String call = "attacks(" + man + ", " + s + ", " + p + ", " + w + ", " + square + ")";
            EndTables x = object(1);
            if (s == p || p == w || s == w) {
                answers.dueThrow(call, () -> x.attacks(man, s, p, w, square),
                        "IllegalArgumentException");
            } else {
                answers.due(call, () -> x.attacks(man, s, p, w, square),
                        due.manAttacks(man, s, p, w, square) ? 1 : 0);
            }
        }
    }

    private void compareAllPositions() {
        for (int man = 1; man <= 5; man++) {
            for (int s = 0; s < due.squares; s++) {
                for (int p = 0; p < due.squares; p++) {
                    for (int w = 0; w < due.squares; w++) {
                        compare(man, s, p, w, true, (s + p + w) % 40);
                        compare(man, s, p, w, false, (s + p + w) % 40);
                    }
                }
            }
        }
    }

    private void compareSomePositions(int rounds) {
        Random random = new Random(11);
        for (int k = 0; k < rounds; k++) {
            // one man for many rounds, as each object makes only the tables that are asked for
            int man = 5 - k * 5 / rounds;
            int s = random.nextInt(due.squares);
            int p = random.nextInt(due.squares);
            int w = random.nextInt(due.squares);
            compare(man, s, p, w, random.nextBoolean(), random.nextInt(201));
        }
    }

    private void compare(int man, int s, int p, int w, boolean strongMoves, int n) {
        String at = "(" + man + ", " + s + ", " + p + ", " + w + ", " + strongMoves + ")";
        EndTables x = object(10);
        if (!due.isPosition(man, s, p, w, strongMoves)) {
            String exception = "IllegalStateException";
            answers.dueThrow("distance" + at, () -> x.distance(man, s, p, w, strongMoves), exception);
            answers.dueThrow("moves" + at, () -> x.moves(man, s, p, w, strongMoves), exception);
            answers.dueThrow("best" + at, () -> x.best(man, s, p, w, strongMoves), exception);
            answers.dueThrow("play" + at, () -> x.play(man, s, p, w, strongMoves, n), exception);
            return;
        }
        answers.due("distance" + at, () -> x.distance(man, s, p, w, strongMoves),
                due.distance(man, s, p, w, strongMoves));
        answers.due("moves" + at, () -> x.moves(man, s, p, w, strongMoves),
                due.movesOf(man, s, p, w, strongMoves).length);
        answers.due("best" + at, () -> x.best(man, s, p, w, strongMoves),
                due.best(man, s, p, w, strongMoves));
        int[] end = due.play(man, s, p, w, strongMoves, n);
        answers.due("play" + at + " up to " + n, () -> x.play(man, s, p, w, strongMoves, n), end[6]);
        for (int k = 0; k < 6; k++) {
            int entry = k;
            answers.due("line(" + k + ") behind play" + at + " up to " + n,
                    () -> x.line(entry), end[k]);
        }
    }
}
