import java.util.Arrays;

/**
 * The document's terms told again as plainly as can be: no walking of lines, no taking back of
 * moves, only the words of "Terms" tried on every position until nothing changes. The tests hold
 * EndTables against it, so it shares no code and no trick with it.
 */
final class Reference {
    static final int NONE = -1;
    static final int NO_POSITION = -2;

    final int n;
    final int squares;
    private final int cube;
    /** By man and side (0 weak, 1 strong), then by index(). */
    private final int[][][] distances = new int[6][2][];
    private final int[][][][] moves = new int[6][2][][];

    Reference(int n) {
        this.n = n;
        squares = n * n;
        cube = squares * squares * squares;
        for (int man = 5; man >= 1; man--) {
            listAllMoves(man);
            solve(man);
        }
    }

    int index(int strong, int piece, int weak) {
        return strong * squares * squares + piece * squares + weak;
    }

    int distance(int man, int strong, int piece, int weak, boolean strongMoves) {
        return distances[man][strongMoves ? 1 : 0][index(strong, piece, weak)];
    }

    boolean isPosition(int man, int strong, int piece, int weak, boolean strongMoves) {
        if (strong == piece || piece == weak || weak == strong) {
            return false;
        }
        if (kingAttacks(strong, weak)) {
            return false;
        }
        if (man == 1 && (piece / n == 0 || piece / n == n - 1)) {
            return false;
        }
        return !(strongMoves && manAttacks(man, strong, piece, weak, weak));
    }

    int[] movesOf(int man, int strong, int piece, int weak, boolean strongMoves) {
        return moves[man][strongMoves ? 1 : 0][index(strong, piece, weak)];
    }

    int best(int man, int strong, int piece, int weak, boolean strongMoves) {
        int distance = distance(man, strong, piece, weak, strongMoves);
        if (distance <= 0) {
            return NONE;
        }
        int least = Integer.MAX_VALUE;
        for (int move : movesOf(man, strong, piece, weak, strongMoves)) {
            if (behind(man, strong, piece, weak, strongMoves, move) == distance - 1) {
                least = Math.min(least, move);
            }
        }
        return least;
    }

    /** Man, strong king, man's square, weak king, 1 if the strong side moves, distance, played. */
    int[] play(int man, int strong, int piece, int weak, boolean strongMoves, int most) {
        int[] at = {man, strong, piece, weak, strongMoves ? 1 : 0, 0, 0};
        while (at[6] < most && best(at[0], at[1], at[2], at[3], at[4] == 1) != NONE) {
            int move = best(at[0], at[1], at[2], at[3], at[4] == 1);
            int from = move % 64;
            int to = move / 64 % 64;
            int become = move / 4096;
            for (int who = 1; who <= 3; who++) {
                if (at[who] == from) {
                    at[who] = to;
                    break;
                }
            }
            if (become != 0) {
                at[0] = become;
            }
            at[4] = 1 - at[4];
            at[6]++;
        }
        at[5] = distance(at[0], at[1], at[2], at[3], at[4] == 1);
        return at;
    }

    int count(int man, boolean strongMoves, int d) {
        int count = 0;
        for (int distance : distances[man][strongMoves ? 1 : 0]) {
            if (d == -2 ? distance != NO_POSITION : distance == d) {
                count++;
            }
        }
        return count;
    }

    int longest(int man) {
        int greatest = NONE;
        for (int side = 0; side < 2; side++) {
            for (int distance : distances[man][side]) {
                greatest = Math.max(greatest, distance);
            }
        }
        return greatest;
    }

    boolean kingAttacks(int from, int to) {
        return from != to && Math.abs(from % n - to % n) <= 1 && Math.abs(from / n - to / n) <= 1;
    }

    boolean manAttacks(int man, int strong, int piece, int weak, int square) {
        int files = square % n - piece % n;
        int ranks = square / n - piece / n;
        if (piece == square) {
            return false;
        }
        boolean askew = Math.abs(files) == Math.abs(ranks);
        boolean straight = files == 0 || ranks == 0;
        switch (man) {
            case 1:
                return ranks == 1 && Math.abs(files) == 1;
            case 2:
                return Math.abs(files * ranks) == 2;
            case 3:
                return askew && isOpen(strong, piece, weak, square);
            case 4:
                return straight && isOpen(strong, piece, weak, square);
            default:
                return (askew || straight) && isOpen(strong, piece, weak, square);
        }
    }

    private boolean isOpen(int strong, int piece, int weak, int square) {
        return !isBetween(piece, strong, square) && !isBetween(piece, weak, square);
    }

    /** Whether the middle one lies inside the line from one to the other. */
    private boolean isBetween(int one, int middle, int other) {
        if (middle == one || middle == other) {
            return false;
        }
        int toMiddleFiles = middle % n - one % n;
        int toMiddleRanks = middle / n - one / n;
        int toOtherFiles = other % n - one % n;
        int toOtherRanks = other / n - one / n;
        int cross = toMiddleFiles * toOtherRanks - toMiddleRanks * toOtherFiles;
        int along = toMiddleFiles * toOtherFiles + toMiddleRanks * toOtherRanks;
        int whole = toOtherFiles * toOtherFiles + toOtherRanks * toOtherRanks;
        return cross == 0 && along > 0 && along < whole;
    }

    private void listAllMoves(int man) {
        for (int side = 0; side < 2; side++) {
            moves[man][side] = new int[cube][];
            distances[man][side] = new int[cube];
            for (int s = 0; s < squares; s++) {
                for (int p = 0; p < squares; p++) {
                    for (int w = 0; w < squares; w++) {
                        boolean is = isPosition(man, s, p, w, side == 1);
                        distances[man][side][index(s, p, w)] = is ? NONE : NO_POSITION;
                        if (is) {
                            moves[man][side][index(s, p, w)] =
                                    side == 1 ? strongMoves(man, s, p, w) : weakMoves(man, s, p, w);
                        }
                    }
                }
            }
        }
    }

    private int[] weakMoves(int man, int s, int p, int w) {
        int[] found = new int[8];
        int k = 0;
        for (int to = 0; to < squares; to++) {
            if (!kingAttacks(w, to) || to == s) {
                continue;
            }
            boolean takes = to == p;
            if (takes ? !kingAttacks(s, to) : isPosition(man, s, p, to, true)) {
                found[k++] = w + 64 * to;
            }
        }
        return Arrays.copyOf(found, k);
    }

    private int[] strongMoves(int man, int s, int p, int w) {
        int[] found = new int[60];
        int k = 0;
        for (int to = 0; to < squares; to++) {
            if (to == s || to == p || to == w) {
                continue;
            }
            if (kingAttacks(s, to) && isPosition(man, to, p, w, false)) {
                found[k++] = s + 64 * to;
            }
            if (man != 1 && manAttacks(man, s, p, w, to)) {
                found[k++] = p + 64 * to;
            }
            if (man == 1 && pawnGoes(s, p, w, to)) {
                boolean last = to / n == n - 1;
                for (int become = last ? 2 : 0; become <= (last ? 5 : 0); become++) {
                    found[k++] = p + 64 * to + 4096 * become;
                }
            }
        }
        return Arrays.copyOf(found, k);
    }

    /** The target square is known to be empty. */
    private boolean pawnGoes(int s, int p, int w, int to) {
        if (to == p + n) {
            return true;
        }
        boolean middleIsEmpty = p + n != s && p + n != w;
        return to == p + 2 * n && p / n == 1 && n >= 6 && middleIsEmpty;
    }

    private int behind(int man, int s, int p, int w, boolean strongMoves, int move) {
        int from = move % 64;
        int to = move / 64 % 64;
        int become = move / 4096;
        if (!strongMoves) {
            return to == p ? NONE : distance(man, s, p, to, true);
        }
        if (from == s) {
            return distance(man, to, p, w, false);
        }
        return distance(become == 0 ? man : become, s, to, w, false);
    }

    private void solve(int man) {
        int idle = 0;
        for (int d = 0; idle < 60; d++) {
            idle = label(man, d) ? 0 : idle + 1;
        }
    }

    /** Gives the distance d where it is due; a weak side's is even, a strong side's odd. */
    private boolean label(int man, int d) {
        boolean strongMoves = d % 2 == 1;
        int[] row = distances[man][d % 2];
        boolean changed = false;
        for (int s = 0; s < squares; s++) {
            for (int p = 0; p < squares; p++) {
                for (int w = 0; w < squares; w++) {
                    int at = index(s, p, w);
                    if (row[at] == NONE && isDue(man, s, p, w, strongMoves, d)) {
                        row[at] = d;
                        changed = true;
                    }
                }
            }
        }
        return changed;
    }

    private boolean isDue(int man, int s, int p, int w, boolean strongMoves, int d) {
        int[] all = movesOf(man, s, p, w, strongMoves);
        if (d == 0) {
            return all.length == 0 && manAttacks(man, s, p, w, w);
        }
        if (strongMoves) {
            for (int move : all) {
                if (behind(man, s, p, w, true, move) == d - 1) {
                    return true;
                }
            }
            return false;
        }
        int greatest = NONE;
        for (int move : all) {
            int behind = behind(man, s, p, w, false, move);
            if (behind < 0) {
                return false;
            }
            greatest = Math.max(greatest, behind);
        }
        return greatest == d - 1;
    }
}
