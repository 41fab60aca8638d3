/** The promises one by one: ordinary inputs, each edge that a sentence names, wrong inputs. */
public final class PromiseTest {
    private static final String ARGUMENT = Checks.ARGUMENT;
    private static final String STATE = Checks.STATE;
    private static final String INDEX = Checks.INDEX;
    private static final boolean STRONG = Checks.STRONG;
    private static final boolean WEAK = Checks.WEAK;
    private static final int PAWN = Checks.PAWN;
    private static final int KNIGHT = Checks.KNIGHT;
    private static final int BISHOP = Checks.BISHOP;
    private static final int ROOK = Checks.ROOK;
    private static final int QUEEN = Checks.QUEEN;
    private static final int LEAST = Integer.MIN_VALUE;
    private static final int GREATEST = Integer.MAX_VALUE;
    private static final int[] WRONG_MEN = {LEAST, LEAST + 1, -5, -1, 0, 6, 7, GREATEST};
    /** The longest way with a pawn, on the greatest board. */
    private static final String LONGEST =
            "........ ........ ........ k....... ........ K....... ......P. ........";

    private final Checks checks = new Checks();
    private final Answers answers = checks.answers;

    public static void main(String[] args) {
        PromiseTest test = new PromiseTest();
        test.newObject();
        test.distance();
        test.distanceForWrongMen();
        test.distanceForWrongSquares();
        test.distanceForNoPosition();
        test.moves();
        test.best();
        test.bestOfSeveral();
        test.bestWithoutAny();
        test.play();
        test.playUpToTheMate();
        test.playWithoutDistance();
        test.playForOtherN();
        test.line();
        test.lineWithoutPlay();
        test.lineForWrongEntries();
        test.count();
        test.countBeyondAll();
        test.countForWrongArguments();
        test.longest();
        test.attacks();
        test.attacksForWrongArguments();
        test.look();
        test.answers.end("PromiseTest");
    }

    /** Promise 1: "N is n, but 4 .. 8." */
    private void newObject() {
        int[][] sides = {{4, 4}, {5, 5}, {6, 6}, {7, 7}, {8, 8}, {3, 4}, {2, 4}, {1, 4}, {0, 4},
            {-1, 4}, {-8, 4}, {9, 8}, {10, 8}, {64, 8}, {LEAST, 4}, {LEAST + 1, 4}, {GREATEST, 8}};
        for (int[] side : sides) {
            EndTables x = new EndTables(side[0]);
            int n = side[1];
            int last = n * n - 1;
            String made = "EndTables(" + side[0] + ")";
            answers.due(made + " N", () -> x.look(0), n);
            answers.due(made + " squares", () -> x.look(1), n * n);
            answers.due(made + " has its last square",
                    () -> x.attacks(BISHOP, 1, 0, 2, last), 1);
            answers.dueThrow(made + " has no more",
                    () -> x.attacks(BISHOP, 1, 0, 2, last + 1), ARGUMENT);
            answers.dueThrow(made + " has played nothing", () -> x.line(0), INDEX);
        }
    }

    /** Promise 2: "The DISTANCE of a position; NONE if it has none." */
    private void distance() {
        checks.distance("mate", "k..R .... K... ....", WEAK, 0);
        checks.distance("mate in one", "k... ...R K... ....", STRONG, 1);
        checks.distance("none", "k... ...B K... ....", STRONG, -1);
        checks.distance("the longest", LONGEST, WEAK, 56);
        EndTables x = checks.object(8, 6);
        answers.due("the least squares", () -> x.distance(ROOK, 0, 1, 2, WEAK), 30);
        answers.due("the greatest squares", () -> x.distance(ROOK, 63, 62, 61, WEAK), 30);
        answers.due("the least man", () -> x.distance(PAWN, 0, 48, 63, STRONG), 19);
        answers.due("the greatest man", () -> x.distance(QUEEN, 17, 9, 1, WEAK), 0);
        answers.due("the strong side moves", () -> x.distance(QUEEN, 0, 10, 63, STRONG), 13);
        answers.due("the weak side moves", () -> x.distance(QUEEN, 0, 10, 63, WEAK), 16);
    }

    /** "IllegalArgumentException if man is not 1 .. 5" */
    private void distanceForWrongMen() {
        for (int n = 4; n <= 8; n++) {
            for (int man : WRONG_MEN) {
                checks.allThrow("wrong man", n, man, 0, n + 1, 3, STRONG, ARGUMENT);
                checks.allThrow("wrong man", n, man, 0, n + 1, 3, WEAK, ARGUMENT);
            }
            for (int man = PAWN; man <= QUEEN; man++) {
                checks.noneThrows("a man", n, man, 0, n + 1, 3, WEAK);
            }
        }
    }

    /** "or a square not one of the board's" */
    private void distanceForWrongSquares() {
        for (int n = 4; n <= 8; n++) {
            int last = n * n - 1;
            int[] wrong = {LEAST, LEAST + 1, -64, -1, last + 1, last + 2, 64, 65, 4096, GREATEST};
            for (int square : wrong) {
                checks.allThrow("strong king", n, ROOK, square, n + 1, 3, STRONG, ARGUMENT);
                checks.allThrow("strong king", n, ROOK, square, n + 1, 3, WEAK, ARGUMENT);
                checks.allThrow("man", n, ROOK, 0, square, 3, STRONG, ARGUMENT);
                checks.allThrow("man", n, ROOK, 0, square, 3, WEAK, ARGUMENT);
                checks.allThrow("weak king", n, ROOK, 0, n + 1, square, STRONG, ARGUMENT);
                checks.allThrow("weak king", n, ROOK, 0, n + 1, square, WEAK, ARGUMENT);
            }
            checks.isPosition("first and last square", n, KNIGHT, 0, 1, last);
            checks.isPosition("last and first square", n, KNIGHT, last, 1, 0);
            checks.isPosition("the man on the first square", n, KNIGHT, last, 0, 1);
            checks.isPosition("the man on the last square", n, KNIGHT, 0, last, last - 1);
        }
    }

    /** "IllegalStateException if it is no position", but not before the arguments are right. */
    private void distanceForNoPosition() {
        checks.noPosition("one square for two", 8, ROOK, 9, 9, 63);
        checks.noPosition("kings beside one another", 8, ROOK, 0, 63, 9);
        checks.noPosition("a pawn on rank 0", 8, PAWN, 16, 3, 23);
        checks.inCheck("check", "k..R .... .... K...");
        for (int side = 0; side < 2; side++) {
            boolean strongMoves = side == 1;
            checks.allThrow("no man, one square", 8, 0, 9, 9, 9, strongMoves, ARGUMENT);
            checks.allThrow("no man, kings beside", 8, 6, 0, 63, 1, strongMoves, ARGUMENT);
            checks.allThrow("no square, one square", 8, ROOK, 64, 9, 9, strongMoves, ARGUMENT);
            checks.allThrow("no square, one square", 8, ROOK, 9, 9, -1, strongMoves, ARGUMENT);
            checks.allThrow("no square, kings beside", 8, ROOK, 0, 64, 1, strongMoves, ARGUMENT);
            checks.allThrow("twice no square", 8, ROOK, 64, 64, 5, strongMoves, ARGUMENT);
        }
    }

    /** Promise 3: "How many moves a position has." */
    private void moves() {
        checks.moves("mate", "k..R .... K... ....", WEAK, 0);
        checks.moves("no move", "K.k. P... .... ....", STRONG, 0);
        checks.moves("the only one takes", "...K .... .R.. k...", WEAK, 1);
        checks.moves("the weak king's most", "...KN ..... ..... .k... .....", WEAK, 8);
        checks.moves("all that a pawn becomes", ".... P... .... K.k.", STRONG, 1 + 4);
        checks.moves("the most of all",
                "........ .....k.. ........ .K...... ...Q.... ........ ........ ........",
                STRONG, 35);
    }

    /** Promise 4: "from + 64 * to + 4096 * (what a pawn becomes, 0 if none)" */
    private void best() {
        checks.best("the man", "k... ...R K... ....", STRONG, 11 + 64 * 15);
        checks.best("the weak king, its only move",
                "R....... ........ ........ ........ ........ ..K..... ........ k.......",
                WEAK, 0 + 64 * 1);
        checks.best("a queen", ".... P... .... K.k.", STRONG, 8 + 64 * 12 + 4096 * QUEEN);
        checks.best("a rook", ".... .P.. .K.. ...k", STRONG, 9 + 64 * 13 + 4096 * ROOK);
        checks.best("a pawn that becomes nothing", "K... .... .P.. k...", STRONG, 5 + 64 * 9);
        checks.best("the strong king", "...k. ..... ..... .K.P. .....", STRONG, 6 + 64 * 12);
        checks.best("the longest", LONGEST, WEAK, 32 + 64 * 33);
    }

    /** "of all moves to a position with a distance of one less the one whose number is the least" */
    private void bestOfSeveral() {
        checks.best("the lesser to, though the king's from is less: of 1-2 and 0-5",
                "...k .... .... KR..", STRONG, 1 + 64 * 2);
        checks.best("the lesser to, though the man's from is less: of 1-5, 0-8 and 0-12",
                ".... .... .... RK.k", STRONG, 1 + 64 * 5);
        checks.best("one to, the king's from is less: of 0-1 and 5-1",
                ".... k... .R.. K...", STRONG, 0 + 64 * 1);
        checks.best("one to, the man's from is less: of 12-9 and 5-9",
                "K... .... .P.. k...", STRONG, 5 + 64 * 9);
        checks.best("a rook is less than a queen",
                ".... P... .... k.K.", STRONG, 8 + 64 * 12 + 4096 * ROOK);
        checks.best("becoming nothing is less than a rook",
                "..... ..P.. ..... ..... k.K..", STRONG, 2 + 64 * 7);
        checks.best("the weak king's lesser to: of 2-6 and 2-7",
                ".... .... .P.. K.k.", WEAK, 2 + 64 * 6);
        checks.best("not the least of all numbers, as 2-3 is not best",
                ".... .... .P.. K.k.", WEAK, 2 + 64 * 6);
    }

    /** "NONE if it has none, or is mate." */
    private void bestWithoutAny() {
        checks.best("mate", "k..R .... K... ....", WEAK, -1);
        checks.best("mate by a queen", "k... .Q.. ..K. ....", WEAK, -1);
        checks.best("no move, no check", "k... ..Q. .... ...K", WEAK, -1);
        checks.best("no distance, but moves", "k... ...B K... ....", STRONG, -1);
        checks.best("no distance, though some moves lead to one",
                ".... .... P... K.k.", WEAK, -1);
        checks.best("the man can be taken", "...K .... .Q.. k...", WEAK, -1);
    }

    /** Promise 5: "up to n half moves, 0 .. 200" */
    private void play() {
        String pawn = ".... .... .P.. K.k.";
        checks.play("n = 0", pawn, WEAK, 0, 0, PAWN, 0, 5, 2, 0, 16);
        checks.play("n = 1", pawn, WEAK, 1, 1, PAWN, 0, 5, 6, 1, 15);
        checks.play("n = 0, strong side", ".... P... .... K.k.", STRONG, 0,
                0, PAWN, 0, 8, 2, 1, 7);
        checks.play("n = 1, strong side", ".... P... .... K.k.", STRONG, 1,
                1, QUEEN, 0, 12, 2, 0, 6);
        for (int n = 0; n <= 56; n++) {
            EndTables x = checks.object(8, 3);
            int most = n;
            answers.due("n = " + n, () -> x.play(PAWN, 16, 14, 32, WEAK, most), n);
            answers.due("n = " + n + ", side", () -> x.line(4), n % 2);
            answers.due("n = " + n + ", distance", () -> x.line(5), 56 - n);
        }
    }

    /** "or to the mate" */
    private void playUpToTheMate() {
        String pawn = ".... P... .... K.k.";
        int[] atMate = endOf(pawn, 7);
        checks.play("one short of the mate", pawn, STRONG, 6, 6);
        checks.play("n as far as the mate", pawn, STRONG, 7, 7, atMate);
        checks.play("n just beyond the mate", pawn, STRONG, 8, 7, atMate);
        checks.play("the greatest n", pawn, STRONG, 200, 7, atMate);
        checks.play("the greatest n, the longest way", LONGEST, WEAK, 200, 56);
        checks.play("from a mate", "k..R .... K... ....", WEAK, 200, 0, ROOK, 4, 15, 12, 0, 0);
        checks.play("from a mate, n = 0", "k..R .... K... ....", WEAK, 0, 0, ROOK, 4, 15, 12, 0, 0);
        checks.play("from a mate, n = 1", "k..R .... K... ....", WEAK, 1, 0, ROOK, 4, 15, 12, 0, 0);
        checks.play("mate in one", "k... ...R K... ....", STRONG, 200, 1, ROOK, 4, 15, 12, 0, 0);
    }

    /** Where half move by half move of best() leads, so that play() is held to promise 4. */
    private int[] endOf(String drawn, int n) {
        Drawing from = new Drawing(drawn);
        int[] at = {from.man, from.strong, from.piece, from.weak, 1, 0};
        EndTables x = new EndTables(from.n);
        for (int k = 0; k < n; k++) {
            int move = x.best(at[0], at[1], at[2], at[3], at[4] == 1);
            int moved = at[4] == 0 ? 3 : at[1] == move % 64 ? 1 : 2;
            at[moved] = move / 64 % 64;
            at[0] = move / 4096 == 0 ? at[0] : move / 4096;
            at[4] = 1 - at[4];
        }
        at[5] = x.distance(at[0], at[1], at[2], at[3], at[4] == 1);
        return at;
    }

    /** "(none, if it has no DISTANCE)" */
    private void playWithoutDistance() {
        checks.play("a bishop", "k... ...B K... ....", STRONG, 200, 0, BISHOP, 4, 11, 12, 1, -1);
        checks.play("no move, no check", "k... ..Q. .... ...K", WEAK, 200,
                0, QUEEN, 3, 10, 12, 0, -1);
        checks.play("some moves lead to a distance", ".... .... P... K.k.", WEAK, 1,
                0, PAWN, 0, 4, 2, 0, -1);
        checks.play("n = 0", "k... ...B K... ....", WEAK, 0, 0, BISHOP, 4, 11, 12, 0, -1);
    }

    /** "IllegalArgumentException also for any other n" */
    private void playForOtherN() {
        int[] others = {LEAST, LEAST + 1, -200, -2, -1, 201, 202, GREATEST};
        for (int n : others) {
            EndTables x = checks.object(8, 6);
            String on = "play up to " + n;
            answers.dueThrow(on, () -> x.play(PAWN, 0, 48, 63, STRONG, n), ARGUMENT);
            answers.dueThrow(on + " from a mate",
                    () -> x.play(ROOK, 17, 7, 1, WEAK, n), ARGUMENT);
            answers.dueThrow(on + " without a distance",
                    () -> x.play(KNIGHT, 0, 48, 63, WEAK, n), ARGUMENT);
            answers.dueThrow(on + ", no position", () -> x.play(ROOK, 9, 9, 63, WEAK, n), ARGUMENT);
            answers.dueThrow(on + ", no man", () -> x.play(0, 0, 48, 63, WEAK, n), ARGUMENT);
            answers.dueThrow(on + ", no square", () -> x.play(ROOK, 0, 64, 63, WEAK, n), ARGUMENT);
        }
        int[] allowed = {0, 200};
        for (int n : allowed) {
            EndTables x = checks.object(8, 3);
            answers.dueThrow("no position", () -> x.play(ROOK, 9, 9, 63, WEAK, n), STATE);
            answers.dueThrow("no man", () -> x.play(6, 0, 48, 63, WEAK, n), ARGUMENT);
            answers.dueThrow("no square", () -> x.play(ROOK, -1, 48, 63, WEAK, n), ARGUMENT);
        }
    }

    /** Promise 6: "Of where the latest play() that did not throw ended" */
    private void line() {
        EndTables x = new EndTables(4);
        answers.due("play", () -> x.play(PAWN, 0, 8, 2, STRONG, 1), 1);
        checks.line("the first play", x, QUEEN, 0, 12, 2, 0, 6);
        answers.due("play", () -> x.play(ROOK, 4, 11, 12, STRONG, 0), 0);
        checks.line("the latest play, though it played none", x, ROOK, 4, 11, 12, 1, 1);
        answers.due("play", () -> x.play(BISHOP, 4, 11, 12, WEAK, 9), 0);
        checks.line("the latest play, though without a distance", x, BISHOP, 4, 11, 12, 0, -1);
        answers.due("distance", () -> x.distance(PAWN, 0, 8, 2, STRONG), 7);
        answers.due("moves", () -> x.moves(PAWN, 0, 8, 2, STRONG), 5);
        answers.due("best", () -> x.best(PAWN, 0, 8, 2, STRONG), 21256);
        answers.due("attacks", () -> x.attacks(QUEEN, 0, 8, 2, 12), 1);
        answers.due("count", () -> x.count(QUEEN, WEAK, 0), 108);
        answers.due("longest", () -> x.longest(PAWN), 20);
        answers.due("look", () -> x.look(0), 4);
        checks.line("other calls are no play()", x, BISHOP, 4, 11, 12, 0, -1);
        answers.dueThrow("play", () -> x.play(PAWN, 0, 0, 2, STRONG, 1), STATE);
        answers.dueThrow("play", () -> x.play(PAWN, 0, 8, 2, STRONG, 201), ARGUMENT);
        answers.dueThrow("play", () -> x.play(PAWN, 0, 16, 2, STRONG, 1), ARGUMENT);
        checks.line("a play() that threw does not count", x, BISHOP, 4, 11, 12, 0, -1);
    }

    /** "IndexOutOfBoundsException if there was none" */
    private void lineWithoutPlay() {
        EndTables x = new EndTables(4);
        for (int k = -1; k <= 6; k++) {
            int w = k;
            answers.dueThrow("line(" + k + ") of a new object", () -> x.line(w), INDEX);
        }
        answers.due("distance", () -> x.distance(PAWN, 0, 8, 2, STRONG), 7);
        answers.due("best", () -> x.best(PAWN, 0, 8, 2, STRONG), 21256);
        answers.dueThrow("play", () -> x.play(PAWN, 0, 0, 2, STRONG, 1), STATE);
        answers.dueThrow("play", () -> x.play(PAWN, 0, 8, 2, STRONG, -1), ARGUMENT);
        answers.dueThrow("play", () -> x.play(0, 0, 8, 2, STRONG, 1), ARGUMENT);
        for (int k = 0; k < 6; k++) {
            int w = k;
            answers.dueThrow("line(" + k + ") behind plays that threw", () -> x.line(w), INDEX);
        }
        answers.due("play", () -> x.play(PAWN, 0, 8, 2, STRONG, 0), 0);
        checks.line("a play of no half move is one", x, PAWN, 0, 8, 2, 1, 7);
        EndTables other = new EndTables(4);
        answers.dueThrow("another object's play", () -> other.line(0), INDEX);
    }

    /** "or no such w" */
    private void lineForWrongEntries() {
        EndTables x = new EndTables(4);
        answers.due("play", () -> x.play(PAWN, 0, 8, 2, STRONG, 1), 1);
        int[] wrong = {LEAST, LEAST + 1, -6, -1, 6, 7, GREATEST};
        for (int w : wrong) {
            answers.dueThrow("line(" + w + ")", () -> x.line(w), INDEX);
        }
        checks.line("the least and the greatest w, and all between", x, QUEEN, 0, 12, 2, 0, 6);
    }

    /** Promise 7: "How many positions", by board: weak and strong side, of all and of none. */
    private void count() {
        int[][] all = {
            {1112, 1000, 2184, 1784, 2184, 1684, 2184, 1312, 2184, 812},
            {6324, 5900, 10488, 8888, 10488, 8424, 10488, 7040, 10488, 4976},
            {23616, 22484, 35360, 30992, 35360, 29280, 35360, 25440, 35360, 19360},
            {68540, 66076, 95880, 86264, 95880, 81260, 95880, 72380, 95880, 57760},
            {168024, 163328, 223944, 205496, 223944, 193284, 223944, 175168, 223944, 144508}};
        int[][] none = {
            {612, 204, 2184, 1784, 2184, 1684, 612, 0, 744, 0},
            {3243, 1315, 10488, 8888, 10488, 8424, 2204, 0, 2480, 0},
            {10800, 4828, 35360, 30992, 35360, 29280, 5652, 0, 6088, 0},
            {30065, 15169, 95880, 86264, 95880, 81260, 11940, 0, 12552, 0},
            {70420, 38368, 223944, 205496, 223944, 193284, 22244, 0, 23048, 0}};
        for (int n = 4; n <= 8; n++) {
            for (int k = 0; k < 10; k++) {
                EndTables x = checks.object(n, 2);
                int man = 1 + k / 2;
                boolean strongMoves = k % 2 == 1;
                String on = "man " + man + ", " + strongMoves + ", N = " + n;
                answers.due("all, " + on, () -> x.count(man, strongMoves, -2), all[n - 4][k]);
                answers.due("none, " + on, () -> x.count(man, strongMoves, -1), none[n - 4][k]);
                countsAddUp(n, man, strongMoves, all[n - 4][k]);
            }
        }
        int[] rookMates = {40, 72, 112, 160, 216};
        int[] queenMates = {108, 160, 220, 288, 364};
        for (int n = 4; n <= 8; n++) {
            EndTables x = checks.object(n, 3);
            answers.due("d = 0, rook", () -> x.count(ROOK, WEAK, 0), rookMates[n - 4]);
            answers.due("d = 0, queen", () -> x.count(QUEEN, WEAK, 0), queenMates[n - 4]);
            answers.due("d = 0, strong side", () -> x.count(ROOK, STRONG, 0), 0);
        }
    }

    private void countsAddUp(int n, int man, boolean strongMoves, int all) {
        EndTables x = checks.object(n, 62);
        int sum = 0;
        for (int d = -1; d <= 60; d++) {
            int count = x.count(man, strongMoves, d);
            sum += count;
            if (d >= 0 && (d % 2 == 1) != strongMoves) {
                answers.due("a side's distances are odd or even, d = " + d, "" + count, "0");
            }
        }
        answers.due("all counts together, man " + man + ", N = " + n, "" + sum, "" + all);
    }

    /** Any d of -2 or more is allowed, though no position has it. */
    private void countBeyondAll() {
        int[] greatest = {20, 25, 32, 46, 56};
        int[] many = {4, 8, 6, 4, 4};
        int[] beyond = {57, 118, 119, 120, 121, 122, 126, 127, 128, 200, 255, 256, 65535,
            GREATEST - 1, GREATEST};
        for (int n = 4; n <= 8; n++) {
            int at = n - 4;
            boolean strongMoves = greatest[at] % 2 == 1;
            EndTables x = checks.object(n, 2);
            answers.due("the greatest, N = " + n,
                    () -> x.count(PAWN, strongMoves, greatest[at]), many[at]);
            answers.due("beyond the greatest, N = " + n,
                    () -> x.count(PAWN, !strongMoves, greatest[at] + 1), 0);
            for (int d : beyond) {
                EndTables y = checks.object(n, 2);
                answers.due("d = " + d, () -> y.count(PAWN, STRONG, d), 0);
                answers.due("d = " + d, () -> y.count(PAWN, WEAK, d), 0);
            }
        }
    }

    /** "IllegalArgumentException if man is not 1 .. 5, or d is below -2" */
    private void countForWrongArguments() {
        int[] below = {LEAST, LEAST + 1, -100, -4, -3};
        for (int side = 0; side < 2; side++) {
            boolean strongMoves = side == 1;
            EndTables x = checks.object(4, 80);
            for (int d : below) {
                for (int k = PAWN; k <= QUEEN; k++) {
                    int man = k;
                    answers.dueThrow("d = " + d, () -> x.count(man, strongMoves, d), ARGUMENT);
                }
            }
            for (int man : WRONG_MEN) {
                for (int k = -3; k <= 0; k++) {
                    int d = k;
                    answers.dueThrow("man = " + man, () -> x.count(man, strongMoves, d), ARGUMENT);
                }
            }
        }
    }

    /** Promise 8: "The greatest DISTANCE of a position with this man; NONE if none has one." */
    private void longest() {
        int[][] due = {{20, -1, -1, 14, 8}, {25, -1, -1, 20, 12}, {32, -1, -1, 24, 14},
            {46, -1, -1, 28, 16}, {56, -1, -1, 32, 20}};
        for (int n = 4; n <= 8; n++) {
            EndTables x = checks.object(n, 5 + WRONG_MEN.length);
            for (int k = PAWN; k <= QUEEN; k++) {
                int man = k;
                answers.due("longest(" + k + "), N = " + n, () -> x.longest(man), due[n - 4][k - 1]);
            }
            for (int man : WRONG_MEN) {
                answers.dueThrow("longest(" + man + ")", () -> x.longest(man), ARGUMENT);
            }
        }
    }

    /** Promise 9: "the two kings standing on theirs", be it a position or not. */
    private void attacks() {
        checks.attacks("kings beside one another", "*.... *.... *Kk.. *.... R****");
        checks.attacks("the weak king in check", "*.... *.... *..K. *.... R*w..");
        checks.attacks("a pawn on rank 0", "K..k .... *.*. .P..");
        checks.attacks("a pawn on rank N - 1", ".P.. .... .... K..k");
        EndTables x = checks.object(8, 5);
        answers.due("the first square", () -> x.attacks(BISHOP, 62, 63, 61, 0), 1);
        answers.due("the last square", () -> x.attacks(BISHOP, 1, 0, 2, 63), 1);
        answers.due("the man's own square", () -> x.attacks(QUEEN, 1, 9, 2, 9), 0);
        answers.due("the strong king's square", () -> x.attacks(QUEEN, 1, 9, 2, 1), 1);
        answers.due("the weak king's square", () -> x.attacks(QUEEN, 1, 9, 2, 2), 1);
    }

    /** "IllegalArgumentException if man is not 1 .. 5, or a square none of the board's, or .." */
    private void attacksForWrongArguments() {
        for (int n = 4; n <= 8; n++) {
            int last = n * n - 1;
            EndTables x = checks.object(n, 80);
            for (int man : WRONG_MEN) {
                answers.dueThrow("man " + man, () -> x.attacks(man, 0, 1, 2, 3), ARGUMENT);
            }
            int[] wrong = {LEAST, LEAST + 1, -64, -1, last + 1, last + 2, 64, 65, GREATEST};
            for (int square : wrong) {
                answers.dueThrow("strong", () -> x.attacks(ROOK, square, 1, 2, 3), ARGUMENT);
                answers.dueThrow("piece", () -> x.attacks(ROOK, 0, square, 2, 3), ARGUMENT);
                answers.dueThrow("weak", () -> x.attacks(ROOK, 0, 1, square, 3), ARGUMENT);
                answers.dueThrow("square", () -> x.attacks(ROOK, 0, 1, 2, square), ARGUMENT);
            }
            for (int k = PAWN; k <= QUEEN; k++) {
                int man = k;
                answers.dueThrow("strong on piece", () -> x.attacks(man, 1, 1, 2, 3), ARGUMENT);
                answers.dueThrow("piece on weak", () -> x.attacks(man, 0, 2, 2, 3), ARGUMENT);
                answers.dueThrow("strong on weak", () -> x.attacks(man, 2, 1, 2, 3), ARGUMENT);
                answers.dueThrow("all on one", () -> x.attacks(man, 2, 2, 2, 3), ARGUMENT);
            }
        }
    }

    /** Promise 10: "which 0: N, 1: how many squares. NONE for any other which." */
    private void look() {
        int[] others = {LEAST, LEAST + 1, -2, -1, 2, 3, GREATEST - 1, GREATEST};
        for (int n = 4; n <= 8; n++) {
            EndTables x = new EndTables(n);
            answers.due("look(0)", () -> x.look(0), n);
            answers.due("look(1)", () -> x.look(1), n * n);
            for (int which : others) {
                answers.due("look(" + which + ")", () -> x.look(which), -1);
            }
        }
    }
}
