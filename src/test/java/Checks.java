/** What the tests of the document's sentences ask again and again, mostly about drawn boards. */
final class Checks {
    static final String ARGUMENT = "IllegalArgumentException";
    static final String STATE = "IllegalStateException";
    static final String INDEX = "IndexOutOfBoundsException";
    static final int PAWN = 1;
    static final int KNIGHT = 2;
    static final int BISHOP = 3;
    static final int ROOK = 4;
    static final int QUEEN = 5;
    static final boolean STRONG = true;
    static final boolean WEAK = false;

    final Answers answers = new Answers();
    private final Pool pool = new Pool();

    /** An object of n squares a side that has as many calls left. */
    EndTables object(int n, int calls) {
        return pool.object(n, calls);
    }

    /** The man attacks the marked squares and no other. */
    void attacks(String what, String drawn) {
        Drawing at = new Drawing(drawn);
        EndTables x = pool.object(at.n, at.n * at.n);
        for (int k = 0; k < at.n * at.n; k++) {
            int square = k;
            answers.due(what + ": is " + k + " attacked",
                    () -> x.attacks(at.man, at.strong, at.piece, at.weak, square),
                    at.isMarked(k) ? 1 : 0);
        }
    }

    void moves(String what, String drawn, boolean strongMoves, int due) {
        Drawing at = new Drawing(drawn);
        EndTables x = pool.object(at.n, 1);
        answers.due(what + ": moves",
                () -> x.moves(at.man, at.strong, at.piece, at.weak, strongMoves), due);
    }

    void distance(String what, String drawn, boolean strongMoves, int due) {
        Drawing at = new Drawing(drawn);
        EndTables x = pool.object(at.n, 1);
        answers.due(what + ": distance",
                () -> x.distance(at.man, at.strong, at.piece, at.weak, strongMoves), due);
    }

    void best(String what, String drawn, boolean strongMoves, int due) {
        Drawing at = new Drawing(drawn);
        EndTables x = pool.object(at.n, 1);
        answers.due(what + ": best",
                () -> x.best(at.man, at.strong, at.piece, at.weak, strongMoves), due);
    }

    /** Plays, and looks at all of line(): man, strong king, man's square, weak king, side, distance. */
    void play(String what, String drawn, boolean strongMoves, int n, int due, int... line) {
        Drawing at = new Drawing(drawn);
        EndTables x = pool.object(at.n, 1 + line.length);
        answers.due(what + ": play",
                () -> x.play(at.man, at.strong, at.piece, at.weak, strongMoves, n), due);
        line(what, x, line);
    }

    void line(String what, EndTables x, int... line) {
        for (int k = 0; k < line.length; k++) {
            int w = k;
            answers.due(what + ": line(" + k + ")", () -> x.line(w), line[k]);
        }
    }

    /** No position, whoever is to move. */
    void noPosition(String what, String drawn) {
        Drawing at = new Drawing(drawn);
        noPosition(what, at.n, at.man, at.strong, at.piece, at.weak);
    }

    void noPosition(String what, int n, int man, int s, int p, int w) {
        allThrow(what, n, man, s, p, w, STRONG, STATE);
        allThrow(what, n, man, s, p, w, WEAK, STATE);
    }

    /** A position, whoever is to move. */
    void isPosition(String what, String drawn) {
        Drawing at = new Drawing(drawn);
        isPosition(what, at.n, at.man, at.strong, at.piece, at.weak);
    }

    void isPosition(String what, int n, int man, int s, int p, int w) {
        noneThrows(what, n, man, s, p, w, STRONG);
        noneThrows(what, n, man, s, p, w, WEAK);
    }

    void inCheck(String what, String drawn) {
        Drawing at = new Drawing(drawn);
        allThrow(what, at.n, at.man, at.strong, at.piece, at.weak, STRONG, STATE);
        noneThrows(what, at.n, at.man, at.strong, at.piece, at.weak, WEAK);
    }

    /** All that asks for a position throws alike. */
    void allThrow(String what, int n, int man, int s, int p, int w, boolean strongMoves,
            String exception) {
        EndTables x = pool.object(n, 4);
        String at = told(what, n, man, s, p, w, strongMoves);
        answers.dueThrow("distance" + at, () -> x.distance(man, s, p, w, strongMoves), exception);
        answers.dueThrow("moves" + at, () -> x.moves(man, s, p, w, strongMoves), exception);
        answers.dueThrow("best" + at, () -> x.best(man, s, p, w, strongMoves), exception);
        answers.dueThrow("play" + at, () -> x.play(man, s, p, w, strongMoves, 1), exception);
    }

    void noneThrows(String what, int n, int man, int s, int p, int w, boolean strongMoves) {
        EndTables x = pool.object(n, 4);
        String at = told(what, n, man, s, p, w, strongMoves);
        answers.dueAnswer("distance" + at, () -> x.distance(man, s, p, w, strongMoves));
        answers.dueAnswer("moves" + at, () -> x.moves(man, s, p, w, strongMoves));
        answers.dueAnswer("best" + at, () -> x.best(man, s, p, w, strongMoves));
        answers.dueAnswer("play" + at, () -> x.play(man, s, p, w, strongMoves, 1));
    }

    private static String told(String what, int n, int man, int s, int p, int w, boolean strongMoves) {
        return "(" + man + ", " + s + ", " + p + ", " + w + ", " + strongMoves + "), N = " + n
                + ", " + what;
    }
}
