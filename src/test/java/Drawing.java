/**
 * A board as it is drawn, rank N - 1 first, a space between ranks: K the strong king, k the weak
 * one, P N B R Q the man, * a square that the man attacks; S is K, and w is k, on such a square.
 */
final class Drawing {
    private static final String MEN = " PNBRQ";

    final int n;
    final int man;
    final int strong;
    final int piece;
    final int weak;
    private final String squares;

    Drawing(String drawn) {
        String[] ranks = drawn.split(" ");
        n = ranks.length;
        StringBuilder all = new StringBuilder();
        for (int rank = n - 1; rank >= 0; rank--) {
            if (ranks[rank].length() != n) {
                throw new IllegalStateException("not square: " + drawn);
            }
            all.append(ranks[rank]);
        }
        squares = all.toString();
        strong = only("KS");
        weak = only("kw");
        piece = only(MEN.trim());
        man = MEN.indexOf(squares.charAt(piece));
    }

    boolean isMarked(int square) {
        return "*Sw".indexOf(squares.charAt(square)) >= 0;
    }

    private int only(String letters) {
        int found = -1;
        for (int square = 0; square < squares.length(); square++) {
            if (letters.indexOf(squares.charAt(square)) >= 0) {
                if (found >= 0) {
                    throw new IllegalStateException("drawn twice: " + letters);
                }
                found = square;
            }
        }
        if (found < 0) {
            throw new IllegalStateException("not drawn: " + letters);
        }
        return found;
    }
}
