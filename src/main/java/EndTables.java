import java.util.Arrays;

/** Endgame tables: a king and one man against a king, on boards of 4 by 4 to 8 by 8 squares. */
public final class EndTables {
    public static final int NONE = -1;

    private static final int PAWN = 1;
    private static final int KNIGHT = 2;
    private static final int QUEEN = 5;

    private static final int SMALLEST_SIDE = 4;
    private static final int LARGEST_SIDE = 8;
    private static final int SMALLEST_SIDE_FOR_TWO_STEPS = 6;

    /** Stands in a table, beside the distances and NONE, where three squares are no position. */
    private static final int NO_POSITION = -2;
    private static final int ALL = -2;

    /** Far above every distance on these boards (56 is the greatest), and still fit for a byte. */
    private static final int DEEPEST = 120;
    private static final int MOST_PLAYED = 200;
    private static final int MOST_MOVES = 64;
    private static final int LINE_ENTRIES = 6;

    /** Directions: 0 to 3 straight, 4 to 7 askew (4 and 5 up the board), 8 to 15 a knight's. */
    private static final int[] FILE_STEPS = {1, -1, 0, 0, 1, -1, 1, -1, 2, 2, -2, -2, 1, 1, -1, -1};
    private static final int[] RANK_STEPS = {0, 0, 1, -1, 1, 1, -1, -1, 1, -1, 1, -1, 2, -2, 2, -2};
    private static final int DIRECTIONS = 16;
    private static final int KING_DIRECTIONS = 8;

    /** Ways to lay a board upon itself; the first two keep each rank, as a pawn needs. */
    private static final int SYMMETRIES = 8;
    private static final int PAWN_SYMMETRIES = 2;

    /** By man: the directions in which it attacks are those from the first to before the end. */
    private static final int[] FIRST_DIRECTION = {0, 4, 8, 4, 0, 0};
    private static final int[] END_DIRECTION = {0, 6, 16, 8, 4, 8};

    private final Board board;
    private final Solver solver;
    /** By man; a table is made when it is first needed, as most runs do not need all of them. */
    private final Table[] tables;
    private final Position here;
    /** The moves listed last stand in the first entries of this row. */
    private final int[] moveRow;
    private int listed;
    private final int[] ending;
    private boolean hasEnding;

    public EndTables(int n) {
        int side = Math.max(SMALLEST_SIDE, Math.min(LARGEST_SIDE, n));
        board = new Board(side);
        solver = new Solver(board);
        tables = new Table[QUEEN + 1];
        here = new Position();
        moveRow = new int[MOST_MOVES];
        listed = 0;
        ending = new int[LINE_ENTRIES];
        hasEnding = false;
    }

    public int distance(int man, int strong, int piece, int weak, boolean strongMoves)
            throws IllegalArgumentException, IllegalStateException {
        standOnSolved(man, strong, piece, weak, strongMoves);
        return distanceHere();
    }

    public int moves(int man, int strong, int piece, int weak, boolean strongMoves)
            throws IllegalArgumentException, IllegalStateException {
        standOn(man, strong, piece, weak, strongMoves);
        return listMovesHere();
    }

    public int best(int man, int strong, int piece, int weak, boolean strongMoves)
            throws IllegalArgumentException, IllegalStateException {
        standOnSolved(man, strong, piece, weak, strongMoves);
        return bestHere();
    }

    public int play(int man, int strong, int piece, int weak, boolean strongMoves, int n)
            throws IllegalArgumentException, IllegalStateException {
        if (n < 0 || n > MOST_PLAYED) {
            throw new IllegalArgumentException("n is not 0 to 200");
        }
        standOnSolved(man, strong, piece, weak, strongMoves);
        int played = 0;
        while (played < n) {
            int move = bestHere();
            if (move == NONE) {
                break;
            }
            here.make(move);
            played++;
        }
        keepEnding();
        return played;
    }

    public int line(int w) throws IndexOutOfBoundsException {
        if (!hasEnding || w < 0 || w >= ending.length) {
            throw new IndexOutOfBoundsException("nothing was played, or no such entry");
        }
        return ending[w];
    }

    public int count(int man, boolean strongMoves, int d) throws IllegalArgumentException {
        requireMan(man);
        if (d < ALL) {
            throw new IllegalArgumentException("d is below -2");
        }
        Table table = tableFor(man);
        int[] tally = strongMoves ? table.strongTally : table.weakTally;
        if (d == ALL) {
            return sum(tally);
        }
        return d < tally.length - 1 ? tally[d + 1] : 0;
    }

    public int longest(int man) throws IllegalArgumentException {
        requireMan(man);
        Table table = tableFor(man);
        return Math.max(greatestIn(table.strongTally), greatestIn(table.weakTally));
    }

    public int attacks(int man, int strong, int piece, int weak, int square)
            throws IllegalArgumentException {
        requireOnBoard(man, strong, piece, weak);
        if (!board.has(square)) {
            throw new IllegalArgumentException("the square is not on the board");
        }
        if (strong == piece || piece == weak || strong == weak) {
            throw new IllegalArgumentException("two of the three stand on one square");
        }
        return board.isAttacked(square, man, piece, strong, weak) ? 1 : 0;
    }

    public int look(int which) {
        switch (which) {
            case 0:
                return board.side;
            case 1:
                return board.squares;
            default:
                return NONE;
        }
    }

    private void requireMan(int man) {
        if (man < PAWN || man > QUEEN) {
            throw new IllegalArgumentException("the man is not 1 to 5");
        }
    }

    private void requireOnBoard(int man, int strong, int piece, int weak) {
        requireMan(man);
        if (!board.has(strong) || !board.has(piece) || !board.has(weak)) {
            throw new IllegalArgumentException("a square is not on the board");
        }
    }

    /** All checks come before the first change, as a call that throws must change nothing. */
    private void standOn(int man, int strong, int piece, int weak, boolean strongMoves) {
        requireOnBoard(man, strong, piece, weak);
        if (!board.isPosition(man, strong, piece, weak, strongMoves)) {
            throw new IllegalStateException("this is no position");
        }
        here.man = man;
        here.strong = strong;
        here.piece = piece;
        here.weak = weak;
        here.strongMoves = strongMoves;
    }

    /** As standOn(), for what asks for distances and so needs the man's table. */
    private void standOnSolved(int man, int strong, int piece, int weak, boolean strongMoves) {
        standOn(man, strong, piece, weak, strongMoves);
        tableFor(man);
    }

    /** A pawn's table rests on those of all that it can become, so these are made before it. */
    private Table tableFor(int man) {
        int first = man == PAWN ? QUEEN : man;
        for (int m = first; m >= man; m--) {
            if (tables[m] == null) {
                tables[m] = solver.solve(m, tables);
            }
        }
        return tables[man];
    }

    /** The entry of a table that is made already. */
    private int entryOf(int man, int strong, int piece, int weak, boolean strongMoves) {
        Table table = tables[man];
        if (table == null) {
            return NO_POSITION;
        }
        byte[] distances = strongMoves ? table.strong : table.weak;
        return distances[board.index(strong, piece, weak)];
    }

    private int distanceHere() {
        return entryOf(here.man, here.strong, here.piece, here.weak, here.strongMoves);
    }

    private int bestHere() {
        int distance = distanceHere();
        if (distance <= 0) {
            return NONE;
        }
        int least = NONE;
        int found = listMovesHere();
        for (int k = 0; k < found; k++) {
            int move = moveRow[k];
            if (distanceBehind(move) == distance - 1 && (least == NONE || move < least)) {
                least = move;
            }
        }
        return least;
    }

    /** Taking the man leads to squares that are no position, and so to no distance. */
    private int distanceBehind(int move) {
        int to = Position.toOf(move);
        if (!here.strongMoves) {
            return entryOf(here.man, here.strong, here.piece, to, true);
        }
        if (Position.fromOf(move) == here.strong) {
            return entryOf(here.man, to, here.piece, here.weak, false);
        }
        int become = Position.becomeOf(move);
        return entryOf(become == 0 ? here.man : become, here.strong, to, here.weak, false);
    }

    /** Writes the moves' numbers into the row of moves and answers how many there are. */
    private int listMovesHere() {
        listed = 0;
        if (!here.strongMoves) {
            listWeakKingMoves();
            return listed;
        }
        listStrongKingMoves();
        if (here.man == PAWN) {
            listPawnMoves();
        } else {
            listManMoves();
        }
        return listed;
    }

    private void listWeakKingMoves() {
        for (int d = 0; d < KING_DIRECTIONS; d++) {
            int to = board.step[d][here.weak];
            if (to < 0) {
                continue;
            }
            boolean allowed = to == here.piece
                    ? !board.isBeside(to, here.strong)
                    : board.isPosition(here.man, here.strong, here.piece, to, true);
            if (allowed) {
                addMove(here.weak, to, 0);
            }
        }
    }

    private void listStrongKingMoves() {
        for (int d = 0; d < KING_DIRECTIONS; d++) {
            int to = board.step[d][here.strong];
            if (to >= 0 && board.isPosition(here.man, to, here.piece, here.weak, false)) {
                addMove(here.strong, to, 0);
            }
        }
    }

    private void listManMoves() {
        int reached = board.reach(here.man, here.piece, here.strong, here.weak);
        for (int k = 0; k < reached; k++) {
            int to = board.reached[k];
            if (isFreeHere(to)) {
                addMove(here.piece, to, 0);
            }
        }
    }

    private void listPawnMoves() {
        int one = here.piece + board.side;
        if (!board.has(one) || !isFreeHere(one)) {
            return;
        }
        if (board.isLastRank(one)) {
            for (int become = KNIGHT; become <= QUEEN; become++) {
                addMove(here.piece, one, become);
            }
            return;
        }
        addMove(here.piece, one, 0);
        int two = one + board.side;
        if (board.mayStepTwo(here.piece) && isFreeHere(two)) {
            addMove(here.piece, two, 0);
        }
    }

    private void addMove(int from, int to, int become) {
        if (listed < moveRow.length) {
            moveRow[listed] = Position.moveOf(from, to, become);
            listed++;
        }
    }

    private boolean isFreeHere(int square) {
        return square != here.strong && square != here.weak;
    }

    private void keepEnding() {
        ending[0] = here.man;
        ending[1] = here.strong;
        ending[2] = here.piece;
        ending[3] = here.weak;
        ending[4] = here.strongMoves ? 1 : 0;
        ending[5] = distanceHere();
        hasEnding = true;
    }

    private static int sum(int[] tally) {
        int all = 0;
        for (int number : tally) {
            all += number;
        }
        return all;
    }

    private static int greatestIn(int[] tally) {
        for (int k = tally.length - 1; k > 0; k--) {
            if (tally[k] > 0) {
                return k - 1;
            }
        }
        return NONE;
    }

    /** Where the three stand and who is to move, and the numbers by which moves are told. */
    private static final class Position {
        private int man;
        private int strong;
        private int piece;
        private int weak;
        private boolean strongMoves;

        static int moveOf(int from, int to, int become) {
            return from + 64 * to + 4096 * become;
        }

        static int fromOf(int move) {
            return move & 63;
        }

        static int toOf(int move) {
            return (move >> 6) & 63;
        }

        static int becomeOf(int move) {
            return move >> 12;
        }

        void make(int move) {
            int to = toOf(move);
            if (!strongMoves) {
                weak = to;
            } else if (fromOf(move) == strong) {
                strong = to;
            } else {
                piece = to;
                man = becomeOf(move) == 0 ? man : becomeOf(move);
            }
            strongMoves = !strongMoves;
        }
    }

    /** The squares, the ways from one to the next, and what a man reaches on them. */
    private static final class Board {
        private final int side;
        private final int squares;
        /** By direction and square: the next square that way, or NONE at the board's edge. */
        private final int[][] step;
        /** By symmetry and square: the square that it is laid upon. */
        private final int[][] image;
        /** What the latest call of reach() found. */
        private final int[] reached;

        Board(int side) {
            this.side = side;
            squares = side * side;
            step = new int[DIRECTIONS][squares];
            image = new int[SYMMETRIES][squares];
            reached = new int[MOST_MOVES];
            for (int d = 0; d < DIRECTIONS; d++) {
                for (int square = 0; square < squares; square++) {
                    step[d][square] = NONE;
                }
                fillSteps(step[d], side, FILE_STEPS[d], RANK_STEPS[d]);
            }
            for (int g = 0; g < SYMMETRIES; g++) {
                fillImages(image[g], side, g);
            }
        }

        private static void fillSteps(int[] row, int side, int files, int ranks) {
            for (int rank = 0; rank < side; rank++) {
                for (int file = 0; file < side; file++) {
                    int toFile = file + files;
                    int toRank = rank + ranks;
                    if (toFile >= 0 && toFile < side && toRank >= 0 && toRank < side) {
                        row[rank * side + file] = toRank * side + toFile;
                    }
                }
            }
        }

        /** Symmetry g mirrors files if it has the bit 1, ranks if 2, and swaps them if 4. */
        private static void fillImages(int[] row, int side, int g) {
            for (int rank = 0; rank < side; rank++) {
                for (int file = 0; file < side; file++) {
                    int toFile = (g & 1) == 0 ? file : side - 1 - file;
                    int toRank = (g & 2) == 0 ? rank : side - 1 - rank;
                    row[rank * side + file] =
                            (g & 4) == 0 ? toRank * side + toFile : toFile * side + toRank;
                }
            }
        }

        boolean has(int square) {
            return square >= 0 && square < squares;
        }

        boolean isLastRank(int square) {
            return square >= squares - side;
        }

        boolean isRankForMan(int man, int square) {
            return man != PAWN || square >= side && !isLastRank(square);
        }

        boolean mayStepTwo(int square) {
            return side >= SMALLEST_SIDE_FOR_TWO_STEPS && square >= side && square < 2 * side;
        }

        int index(int strong, int piece, int weak) {
            return (strong * squares + piece) * squares + weak;
        }

        boolean isBeside(int one, int other) {
            for (int d = 0; d < KING_DIRECTIONS; d++) {
                if (step[d][one] == other) {
                    return true;
                }
            }
            return false;
        }

        boolean isPosition(int man, int strong, int piece, int weak, boolean strongMoves) {
            if (strong == piece || piece == weak || strong == weak) {
                return false;
            }
            if (isBeside(strong, weak) || !isRankForMan(man, piece)) {
                return false;
            }
            return !strongMoves || !isAttacked(weak, man, piece, strong, weak);
        }

        boolean isAttacked(int square, int man, int from, int oneKing, int otherKing) {
            int found = reach(man, from, oneKing, otherKing);
            for (int k = 0; k < found; k++) {
                if (reached[k] == square) {
                    return true;
                }
            }
            return false;
        }

        /** Writes what the man attacks into reached, and answers how many squares that are. */
        int reach(int man, int from, int oneKing, int otherKing) {
            int found = 0;
            int far = man <= KNIGHT ? 1 : side - 1;
            for (int d = FIRST_DIRECTION[man]; d < END_DIRECTION[man]; d++) {
                int square = from;
                for (int k = 0; k < far && found < reached.length; k++) {
                    square = step[d][square];
                    if (square < 0) {
                        break;
                    }
                    reached[found] = square;
                    found++;
                    if (square == oneKing || square == otherKing) {
                        break;
                    }
                }
            }
            return found;
        }

        /** As reach(), but the squares from which the man may have come by its latest move. */
        int reachBack(int man, int to, int oneKing, int otherKing) {
            if (man != PAWN) {
                return reach(man, to, oneKing, otherKing);
            }
            int one = to - side;
            if (one < 0 || one == oneKing || one == otherKing) {
                return 0;
            }
            reached[0] = one;
            int two = one - side;
            if (two < 0 || !mayStepTwo(two)) {
                return 1;
            }
            reached[1] = two;
            return 2;
        }
    }

    /** One man's distances, by Board.index(), for either side to move. */
    private static final class Table {
        private final int man;
        private final byte[] strong;
        private final byte[] weak;
        /** How many positions have each distance: entry 0 is for NONE, entry d + 1 for d. */
        private final int[] strongTally;
        private final int[] weakTally;

        Table(int man, int squares) {
            this.man = man;
            strong = new byte[squares * squares * squares];
            weak = new byte[squares * squares * squares];
            strongTally = new int[DEEPEST + 2];
            weakTally = new int[DEEPEST + 2];
            Arrays.fill(strong, (byte) NO_POSITION);
            Arrays.fill(weak, (byte) NO_POSITION);
        }

        void tallyUp() {
            tallyRow(strong, strongTally);
            tallyRow(weak, weakTally);
        }

        /** What is no position has no entry in a tally. */
        private static void tallyRow(byte[] distances, int[] tally) {
            for (byte distance : distances) {
                int entry = distance + 1;
                if (entry >= 0 && entry < tally.length) {
                    tally[entry]++;
                }
            }
        }
    }

    /** Fills tables from the mates backwards, one half move a level. */
    private static final class Solver {
        private final Board board;
        /** Positions that have got a distance, in its order; none enters twice. */
        private final int[] queue;
        private final byte[] kingRow;
        private int queued;

        Solver(Board board) {
            this.board = board;
            queue = new int[2 * board.squares * board.squares * board.squares];
            kingRow = new byte[board.squares];
            queued = 0;
        }

        /** The tables are those made so far; a pawn's needs all the others. */
        Table solve(int man, Table[] tables) {
            Table table = new Table(man, board.squares);
            queued = 0;
            layOut(table);
            int lastPromotion = man == PAWN ? seedPromotions(table, tables) : 0;
            int start = 0;
            for (int d = 1; d <= DEEPEST; d++) {
                int end = queued;
                if (start == end && d > lastPromotion) {
                    break;
                }
                boolean strongLevel = d % 2 == 1;
                if (strongLevel && d <= lastPromotion) {
                    queuePromotions(table, d);
                }
                for (int k = start; k < end; k++) {
                    if (strongLevel) {
                        takeBackStrongMoves(table, queue[k], d);
                    } else {
                        takeBackWeakMoves(table, queue[k], d);
                    }
                }
                start = end;
            }
            table.tallyUp();
            return table;
        }

        /** Marks what is a position, and gives the mates their distance. */
        private void layOut(Table table) {
            for (int s = 0; s < board.squares; s++) {
                fillKingRow(s);
                for (int p = 0; p < board.squares; p++) {
                    if (s != p && board.isRankForMan(table.man, p)) {
                        layOutRow(table, s, p);
                    }
                }
            }
        }

        /** Where the weak king can stand, as far as the strong one goes. */
        private void fillKingRow(int strong) {
            Arrays.fill(kingRow, (byte) NONE);
            kingRow[strong] = NO_POSITION;
            for (int d = 0; d < KING_DIRECTIONS; d++) {
                int square = board.step[d][strong];
                if (square >= 0) {
                    kingRow[square] = NO_POSITION;
                }
            }
        }

        /** The weak king stops a line only behind its own square, so one walk finds all checks. */
        private void layOutRow(Table table, int s, int p) {
            int row = board.index(s, p, 0);
            System.arraycopy(kingRow, 0, table.weak, row, board.squares);
            System.arraycopy(kingRow, 0, table.strong, row, board.squares);
            table.weak[row + p] = NO_POSITION;
            table.strong[row + p] = NO_POSITION;
            int checks = board.reach(table.man, p, s, s);
            for (int k = 0; k < checks; k++) {
                table.strong[row + board.reached[k]] = NO_POSITION;
            }
            boolean guarded = board.isBeside(s, p);
            for (int k = 0; k < checks; k++) {
                int w = board.reached[k];
                if (table.weak[row + w] == NONE && losesBefore(table, row, p, w, guarded, 0)) {
                    table.weak[row + w] = 0;
                    enqueue(s, p, w);
                }
            }
        }

        /**
         * Whether all the weak king's moves, if there are any, lead to distances below d. With
         * d = 0 no move can, so then it tells that there is none.
         */
        private boolean losesBefore(
                Table table, int row, int p, int w, boolean guarded, int d) {
            for (int k = 0; k < KING_DIRECTIONS; k++) {
                int to = board.step[k][w];
                if (to < 0) {
                    continue;
                }
                int behind = table.strong[row + to];
                if (behind == NONE || behind >= d || to == p && !guarded) {
                    return false;
                }
            }
            return true;
        }

        /**
         * Gives a pawn before the last rank the distance that becoming something has, though a
         * better one may yet be found; answers the greatest of these.
         */
        private int seedPromotions(Table table, Table[] tables) {
            int greatest = 0;
            for (int s = 0; s < board.squares; s++) {
                for (int p = board.squares - 2 * board.side; p < board.squares - board.side; p++) {
                    for (int w = 0; w < board.squares; w++) {
                        int index = board.index(s, p, w);
                        int behind = leastPromotion(tables, board.index(s, p + board.side, w));
                        if (behind != NONE && table.strong[index] == NONE) {
                            table.strong[index] = (byte) (behind + 1);
                            greatest = Math.max(greatest, behind + 1);
                        }
                    }
                }
            }
            return greatest;
        }

        private static int leastPromotion(Table[] tables, int index) {
            int least = NONE;
            for (int become = KNIGHT; become <= QUEEN; become++) {
                if (tables[become] == null) {
                    continue;
                }
                int distance = tables[become].weak[index];
                if (distance >= 0 && (least == NONE || distance < least)) {
                    least = distance;
                }
            }
            return least;
        }

        /** Comes before the level's other moves, as these queue what they find themselves. */
        private void queuePromotions(Table table, int d) {
            for (int s = 0; s < board.squares; s++) {
                for (int p = board.squares - 2 * board.side; p < board.squares - board.side; p++) {
                    int row = board.index(s, p, 0);
                    for (int w = 0; w < board.squares; w++) {
                        if (table.strong[row + w] == d) {
                            enqueue(s, p, w);
                        }
                    }
                }
            }
        }

        private void takeBackStrongMoves(Table table, int entry, int d) {
            int s = entry >> 12;
            int p = (entry >> 6) & 63;
            int w = entry & 63;
            for (int k = 0; k < KING_DIRECTIONS; k++) {
                int from = board.step[k][s];
                if (from >= 0 && isBetter(d, table.strong[board.index(from, p, w)])) {
                    settle(table, table.strong, from, p, w, d);
                }
            }
            int found = board.reachBack(table.man, p, s, w);
            for (int k = 0; k < found; k++) {
                int from = board.reached[k];
                if (isBetter(d, table.strong[board.index(s, from, w)])) {
                    settle(table, table.strong, s, from, w, d);
                }
            }
        }

        private static boolean isBetter(int d, int known) {
            return known == NONE || known > d;
        }

        private void takeBackWeakMoves(Table table, int entry, int d) {
            int s = entry >> 12;
            int p = (entry >> 6) & 63;
            int w = entry & 63;
            int row = board.index(s, p, 0);
            boolean guarded = board.isBeside(s, p);
            for (int k = 0; k < KING_DIRECTIONS; k++) {
                int from = board.step[k][w];
                if (from >= 0 && table.weak[row + from] == NONE
                        && losesBefore(table, row, p, from, guarded, d)) {
                    settle(table, table.weak, s, p, from, d);
                }
            }
        }

        /** Positions that are laid upon one another have one distance, so one is queued for all. */
        private void settle(Table table, byte[] distances, int s, int p, int w, int d) {
            int symmetries = table.man == PAWN ? PAWN_SYMMETRIES : SYMMETRIES;
            for (int g = 0; g < symmetries; g++) {
                int[] image = board.image[g];
                distances[board.index(image[s], image[p], image[w])] = (byte) d;
            }
            enqueue(s, p, w);
        }

        private void enqueue(int s, int p, int w) {
            if (queued < queue.length) {
                queue[queued] = (s << 12) | (p << 6) | w;
                queued++;
            }
        }
    }
}
