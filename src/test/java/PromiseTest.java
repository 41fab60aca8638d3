/** The promises one by one: ordinary inputs, the edges that the document names, wrong inputs. */
public final class PromiseTest {
    private static final String ARGUMENT = "IllegalArgumentException";
    private static final String STATE = "IllegalStateException";
    private static final String INDEX = "IndexOutOfBoundsException";
    private static final int[] WRONG_MEN = {0, 6, -1, 100, Integer.MIN_VALUE, Integer.MAX_VALUE};
    private static final int PAWN = 1;
    private static final int KNIGHT = 2;
    private static final int BISHOP = 3;
    private static final int ROOK = 4;
    private static final int QUEEN = 5;

    private final Answers answers = new Answers();

    public static void main(String[] args) {
        PromiseTest test = new PromiseTest();
        test.answers.due("NONE", () -> EndTables.NONE, -1);
        test.newObject();
        test.distance();
        test.wrongPositions();
        test.moves();
        test.best();
        test.play();
        test.line();
        test.count();
        test.longest();
        test.attacks();
        test.look();
        test.throwingChangesNothing();
        test.answers.end("PromiseTest");
    }

    private void newObject() {
        int[][] sides = {{4, 4}, {5, 5}, {6, 6}, {7, 7}, {8, 8}, {3, 4}, {0, 4}, {-1, 4}, {9, 8},
            {Integer.MIN_VALUE, 4}, {Integer.MAX_VALUE, 8}, {64, 8}};
        for (int[] side : sides) {
            EndTables x = new EndTables(side[0]);
            answers.due("EndTables(" + side[0] + ") look(0)", () -> x.look(0), side[1]);
            answers.due("EndTables(" + side[0] + ") look(1)", () -> x.look(1), side[1] * side[1]);
            answers.dueThrow("EndTables(" + side[0] + ") line(0)", () -> x.line(0), INDEX);
        }
    }

    private void distance() {
        EndTables x = new EndTables(8);
        answers.due("mate by a rook at the side", () -> x.distance(ROOK, 18, 0, 16, false), 0);
        answers.due("mate by a rook", () -> x.distance(ROOK, 17, 7, 1, false), 0);
        answers.due("mate by a queen", () -> x.distance(QUEEN, 17, 9, 1, false), 0);
        answers.due("mate in one", () -> x.distance(ROOK, 17, 15, 1, true), 1);
        answers.due("stalemate", () -> x.distance(QUEEN, 63, 10, 0, false), -1);
        answers.due("queen to be taken", () -> x.distance(QUEEN, 63, 1, 0, false), -1);
        answers.due("a bishop never", () -> x.distance(BISHOP, 18, 9, 0, false), -1);
        answers.due("a knight never", () -> x.distance(KNIGHT, 18, 19, 0, true), -1);
        answers.due("a lone pawn runs", () -> x.distance(PAWN, 0, 48, 63, true), 19);
        EndTables small = new EndTables(4);
        answers.due("a pawn mates by becoming", () -> small.distance(PAWN, 9, 10, 1, true), 3);
    }

    /** All that wants a position throws alike. */
    private void wrongPositions() {
        int[] sides = {4, 8};
        for (int side : sides) {
            int last = side * side - 1;
            for (int man : WRONG_MEN) {
                wrong(side, man, 0, last, last / 2, ARGUMENT);
            }
            int[] wrongSquares = {-1, last + 1, 64, Integer.MIN_VALUE, Integer.MAX_VALUE};
            for (int square : wrongSquares) {
                wrong(side, ROOK, square, last, last / 2, ARGUMENT);
                wrong(side, ROOK, 0, square, last / 2, ARGUMENT);
                wrong(side, ROOK, 0, last, square, ARGUMENT);
                wrong(side, ROOK, square, square, square, ARGUMENT);
                wrong(side, 0, square, 1, 1, ARGUMENT);
            }
            for (int man = PAWN; man <= QUEEN; man++) {
                int p = side + 1;
                wrong(side, man, p, p, last, STATE);
                wrong(side, man, 0, last, last, STATE);
                wrong(side, man, last, p, last, STATE);
                wrong(side, man, p, p, p, STATE);
                wrong(side, man, last, p, last - 1, STATE);
                wrong(side, man, last, p, last - side - 1, STATE);
            }
            for (int file = 0; file < side; file++) {
                wrong(side, PAWN, side, file, last - side, STATE);
                wrong(side, PAWN, 0, last - file, side * 2 - 1, STATE);
            }
        }
        EndTables x = new EndTables(8);
        answers.dueThrow("check, strong side to move",
                () -> x.distance(ROOK, 17, 7, 1, true), STATE);
        answers.dueThrow("check by a pawn, strong side to move",
                () -> x.moves(PAWN, 0, 32, 41, true), STATE);
        answers.due("no check behind the strong king",
                () -> x.distance(ROOK, 3, 0, 7, true) > 0 ? 1 : 0, 1);
    }

    private void wrong(int side, int man, int s, int p, int w, String exception) {
        EndTables x = new EndTables(side);
        String at = "(" + man + ", " + s + ", " + p + ", " + w + ") N = " + side;
        for (int mover = 0; mover < 2; mover++) {
            boolean strongMoves = mover == 1;
            answers.dueThrow("distance" + at, () -> x.distance(man, s, p, w, strongMoves), exception);
            answers.dueThrow("moves" + at, () -> x.moves(man, s, p, w, strongMoves), exception);
            answers.dueThrow("best" + at, () -> x.best(man, s, p, w, strongMoves), exception);
            answers.dueThrow("play" + at, () -> x.play(man, s, p, w, strongMoves, 1), exception);
            answers.dueThrow("play to 201" + at,
                    () -> x.play(man, s, p, w, strongMoves, 201), ARGUMENT);
        }
    }

    private void moves() {
        EndTables six = new EndTables(6);
        answers.due("two steps", () -> six.moves(PAWN, 0, 9, 35, true), 5);
        answers.due("second step shut", () -> six.moves(PAWN, 0, 9, 21, true), 4);
        answers.due("first step shut", () -> six.moves(PAWN, 0, 9, 15, true), 3);
        answers.due("two steps from rank 1 only", () -> six.moves(PAWN, 0, 15, 35, true), 4);
        EndTables five = new EndTables(5);
        answers.due("no two steps below six", () -> five.moves(PAWN, 0, 8, 24, true), 4);
        EndTables eight = new EndTables(8);
        answers.due("four to become", () -> eight.moves(PAWN, 0, 48, 63, true), 7);
        answers.due("the strong king before it", () -> eight.moves(PAWN, 56, 48, 63, true), 2);
        answers.due("a rook", () -> eight.moves(ROOK, 0, 63, 26, true), 3 + 14);
        answers.due("a rook shut in", () -> eight.moves(ROOK, 62, 63, 26, true), 4 + 7);
        answers.due("mate", () -> eight.moves(ROOK, 17, 7, 1, false), 0);
        answers.due("stalemate", () -> eight.moves(QUEEN, 63, 10, 0, false), 0);
        answers.due("taking", () -> eight.moves(QUEEN, 63, 1, 0, false), 1);
        answers.due("no taking of a guarded man", () -> eight.moves(QUEEN, 18, 9, 0, false), 0);
        answers.due("not along the line of a check", () -> eight.moves(ROOK, 63, 0, 2, false), 3);
        EndTables four = new EndTables(4);
        answers.due("a pawn of four squares a side", () -> four.moves(PAWN, 0, 7, 13, true), 3 + 1);
    }

    private void best() {
        EndTables x = new EndTables(8);
        answers.due("mate has none", () -> x.best(ROOK, 17, 7, 1, false), -1);
        answers.due("no distance has none", () -> x.best(BISHOP, 18, 9, 0, false), -1);
        answers.due("mate in one", () -> x.best(ROOK, 17, 15, 1, true), 15 + 64 * 7);
        answers.due("the only flight", () -> x.best(ROOK, 18, 56, 0, false), 0 + 64 * 1);
        answers.due("a king's move is as good as becoming a queen, and less",
                () -> x.best(PAWN, 0, 48, 63, true), 0 + 64 * 1);
        answers.due("becoming a queen", () -> x.best(PAWN, 0, 48, 41, true),
                48 + 64 * 56 + 4096 * QUEEN);
        answers.due("a rook mates as well as a queen, and is less",
                () -> x.best(PAWN, 46, 48, 63, true), 48 + 64 * 56 + 4096 * ROOK);
    }

    private void play() {
        EndTables x = new EndTables(8);
        answers.due("play to the mate", () -> x.play(PAWN, 0, 48, 63, true, 200), 19);
        answers.due("it has become a queen", () -> x.line(0), QUEEN);
        answers.due("mate has the distance 0", () -> x.line(5), 0);
        answers.due("the weak side to move", () -> x.line(4), 0);
        answers.due("up to n", () -> x.play(PAWN, 0, 48, 63, true, 4), 4);
        answers.due("up to n, the distance", () -> x.line(5), 15);
        answers.due("up to n, who moves", () -> x.line(4), 1);
        answers.due("n = 0", () -> x.play(PAWN, 0, 48, 63, true, 0), 0);
        answers.due("n = 0, the man", () -> x.line(0), PAWN);
        answers.due("n = 0, the strong king", () -> x.line(1), 0);
        answers.due("n = 0, the man's square", () -> x.line(2), 48);
        answers.due("n = 0, the weak king", () -> x.line(3), 63);
        answers.due("n = 0, who moves", () -> x.line(4), 1);
        answers.due("n = 0, the distance", () -> x.line(5), 19);
        answers.due("no distance", () -> x.play(KNIGHT, 0, 48, 63, false, 200), 0);
        answers.due("no distance, told", () -> x.line(5), -1);
        int[] wrong = {-1, 201, Integer.MIN_VALUE, Integer.MAX_VALUE};
        for (int n : wrong) {
            answers.dueThrow("n = " + n, () -> x.play(PAWN, 0, 48, 63, true, n), ARGUMENT);
        }
    }

    private void line() {
        EndTables x = new EndTables(5);
        int[] wrong = {-1, 6, Integer.MIN_VALUE, Integer.MAX_VALUE};
        for (int w = 0; w < 6; w++) {
            int entry = w;
            answers.dueThrow("line(" + w + ") before play", () -> x.line(entry), INDEX);
        }
        answers.dueThrow("play", () -> x.play(ROOK, 0, 0, 24, true, 3), STATE);
        answers.dueThrow("line(0) behind a play that threw", () -> x.line(0), INDEX);
        answers.due("play", () -> x.play(ROOK, 0, 3, 24, false, 0), 0);
        for (int w : wrong) {
            answers.dueThrow("line(" + w + ")", () -> x.line(w), INDEX);
        }
    }

    private void count() {
        EndTables x = new EndTables(8);
        answers.due("all of a rook", () -> x.count(ROOK, false, -2), 223944);
        answers.due("mates by a rook", () -> x.count(ROOK, false, 0), 216);
        answers.due("rook, strong side, none", () -> x.count(ROOK, true, -1), 0);
        answers.due("a strong side is never mate", () -> x.count(ROOK, true, 0), 0);
        answers.due("beyond all", () -> x.count(ROOK, true, 1000), 0);
        answers.due("far beyond all", () -> x.count(ROOK, true, Integer.MAX_VALUE), 0);
        answers.due("beyond all by one", () -> x.count(ROOK, false, 33), 0);
        answers.dueThrow("d = -3", () -> x.count(ROOK, true, -3), ARGUMENT);
        answers.dueThrow("d = the least", () -> x.count(ROOK, true, Integer.MIN_VALUE), ARGUMENT);
        for (int man : WRONG_MEN) {
            answers.dueThrow("count(" + man + ")", () -> x.count(man, true, -1), ARGUMENT);
        }
    }

    private void longest() {
        EndTables x = new EndTables(8);
        int[] due = {0, 56, -1, -1, 32, 20};
        for (int man = PAWN; man <= QUEEN; man++) {
            int m = man;
            answers.due("longest(" + man + ")", () -> x.longest(m), due[man]);
        }
        for (int man : WRONG_MEN) {
            answers.dueThrow("longest(" + man + ")", () -> x.longest(man), ARGUMENT);
        }
    }

    private void attacks() {
        EndTables x = new EndTables(8);
        answers.due("a rook up to a king", () -> x.attacks(ROOK, 3, 0, 63, 3), 1);
        answers.due("a rook behind the strong king", () -> x.attacks(ROOK, 3, 0, 63, 4), 0);
        answers.due("a rook behind the weak king", () -> x.attacks(ROOK, 63, 0, 3, 4), 0);
        answers.due("not its own square", () -> x.attacks(QUEEN, 63, 0, 3, 0), 0);
        answers.due("not round the edge", () -> x.attacks(PAWN, 0, 15, 63, 24), 0);
        answers.due("a pawn on the last rank", () -> x.attacks(PAWN, 0, 62, 7, 63), 0);
        answers.due("a pawn on rank 0", () -> x.attacks(PAWN, 63, 1, 7, 8), 1);
        answers.due("a pawn not straight on", () -> x.attacks(PAWN, 63, 1, 7, 9), 0);
        answers.due("a pawn not down", () -> x.attacks(PAWN, 63, 17, 7, 8), 0);
        answers.due("kings side by side", () -> x.attacks(KNIGHT, 62, 0, 63, 17), 1);
        answers.due("a bishop", () -> x.attacks(BISHOP, 62, 0, 63, 63), 1);
        int[] wrong = {-1, 64, Integer.MIN_VALUE, Integer.MAX_VALUE};
        for (int square : wrong) {
            answers.dueThrow("strong", () -> x.attacks(ROOK, square, 1, 2, 3), ARGUMENT);
            answers.dueThrow("piece", () -> x.attacks(ROOK, 0, square, 2, 3), ARGUMENT);
            answers.dueThrow("weak", () -> x.attacks(ROOK, 0, 1, square, 3), ARGUMENT);
            answers.dueThrow("square", () -> x.attacks(ROOK, 0, 1, 2, square), ARGUMENT);
        }
        answers.dueThrow("strong on piece", () -> x.attacks(ROOK, 1, 1, 2, 3), ARGUMENT);
        answers.dueThrow("piece on weak", () -> x.attacks(ROOK, 0, 2, 2, 3), ARGUMENT);
        answers.dueThrow("strong on weak", () -> x.attacks(ROOK, 2, 1, 2, 3), ARGUMENT);
        for (int man : WRONG_MEN) {
            answers.dueThrow("man " + man, () -> x.attacks(man, 0, 1, 2, 3), ARGUMENT);
        }
    }

    private void look() {
        EndTables x = new EndTables(7);
        answers.due("look(0)", () -> x.look(0), 7);
        answers.due("look(1)", () -> x.look(1), 49);
        int[] others = {-1, 2, 3, Integer.MIN_VALUE, Integer.MAX_VALUE};
        for (int which : others) {
            answers.due("look(" + which + ")", () -> x.look(which), -1);
        }
    }

    private void throwingChangesNothing() {
        EndTables x = new EndTables(8);
        answers.due("play", () -> x.play(PAWN, 0, 48, 63, true, 1), 1);
        answers.dueThrow("play", () -> x.play(ROOK, 1, 1, 2, true, 1), STATE);
        answers.dueThrow("play", () -> x.play(ROOK, 1, 64, 2, true, 1), ARGUMENT);
        answers.dueThrow("play", () -> x.play(ROOK, 1, 40, 60, true, 201), ARGUMENT);
        answers.dueThrow("line", () -> x.line(6), INDEX);
        answers.dueThrow("distance", () -> x.distance(ROOK, 1, 1, 2, true), STATE);
        answers.due("other calls are no play", () -> x.best(ROOK, 18, 56, 0, false), 64);
        int[] due = {PAWN, 1, 48, 63, 0, 18};
        for (int w = 0; w < due.length; w++) {
            int entry = w;
            answers.due("line(" + w + ")", () -> x.line(entry), due[w]);
        }
    }
}
