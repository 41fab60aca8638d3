/** "Terms", sentence by sentence; each test bears the words that it holds the class to. */
public final class TermsTest {
    private static final boolean STRONG = Checks.STRONG;
    private static final boolean WEAK = Checks.WEAK;
    private static final int PAWN = Checks.PAWN;
    private static final int KNIGHT = Checks.KNIGHT;
    private static final int ROOK = Checks.ROOK;
    private static final int QUEEN = Checks.QUEEN;

    private final Checks checks = new Checks();

    public static void main(String[] args) {
        TermsTest test = new TermsTest();
        test.filesAndRanks();
        test.kingAttacks();
        test.knightAttacks();
        test.bishopAttacks();
        test.rookAttacks();
        test.queenAttacks();
        test.linesEndAtTheFirstKing();
        test.pawnAttacks();
        test.threeDifferentSquares();
        test.kingsApart();
        test.ranksOfAPawn();
        test.check();
        test.kingMoves();
        test.manMoves();
        test.takingTheMan();
        test.pawnGoesOneRank();
        test.pawnGoesTwoRanks();
        test.pawnBecomes();
        test.behindAStrongMove();
        test.behindAWeakMove();
        test.twoKingsAlone();
        test.mate();
        test.noMoveWithoutCheck();
        test.distanceOfTheWeakSide();
        test.distanceOfTheStrongSide();
        test.noDistance();
        test.noneIsMinusOne();
        test.checks.answers.end("TermsTest");
    }

    /** "square s has the file s % N and the rank s / N": numbers next to one another may not be. */
    private void filesAndRanks() {
        for (int n = 4; n <= 8; n++) {
            int up = n;
            int last = n * n - 1;
            EndTables x = checks.object(n, 6);
            String on = "files and ranks, N = " + n;
            checks.answers.due(on, () -> x.attacks(ROOK, 1, up - 1, last - 1, up), 0);
            checks.answers.due(on, () -> x.attacks(ROOK, 1, up - 1, last - 1, 2 * up - 1), 1);
            checks.answers.due(on, () -> x.attacks(ROOK, 1, up - 1, last - 1, 2), 1);
            checks.answers.due(on, () -> x.attacks(ROOK, 1, up, last - 1, up - 1), 0);
            checks.answers.due(on, () -> x.attacks(ROOK, 1, up, last - 1, 2 * up - 1), 1);
            checks.answers.due(on, () -> x.attacks(ROOK, 1, up, last - 1, last - up + 1), 1);
        }
    }

    /** "A king ATTACKS the (up to eight) squares beside it." Kings cannot stand there together. */
    private void kingAttacks() {
        for (int n = 4; n <= 8; n++) {
            int top = n * (n - 1);
            int[] corners = {0, n - 1, top, n * n - 1};
            int[] edges = {1, n - 2, n, 2 * n - 1, top - 1, top - n, top + 1, n * n - 2};
            int[] inner = {n + 1, 2 * n - 2, top - 2, top - n + 1};
            for (int king : corners) {
                besideKing(n, king, 3);
            }
            for (int king : edges) {
                besideKing(n, king, 5);
            }
            for (int king : inner) {
                besideKing(n, king, 8);
            }
        }
    }

    private void besideKing(int n, int king, int due) {
        int found = 0;
        for (int k = 0; k < n * n; k++) {
            int other = k;
            int man = king + other == 1 ? 2 : king == 0 || other == 0 ? 1 : 0;
            if (other == king) {
                continue;
            }
            EndTables x = checks.object(n, 1);
            String got = Answers.of(() -> x.moves(KNIGHT, king, man, other, WEAK));
            boolean beside = Math.abs(king % n - other % n) <= 1
                    && Math.abs(king / n - other / n) <= 1;
            found += got.equals("throws." + Checks.STATE) ? 1 : 0;
            checks.answers.due("is " + other + " beside a king on " + king + ", N = " + n,
                    got.startsWith("throws") ? "yes" : "no", beside ? "yes" : "no");
        }
        checks.answers.due("squares beside " + king + ", N = " + n, "" + found, "" + due);
    }

    /** "those two files and one rank, or one file and two ranks away" */
    private void knightAttacks() {
        checks.attacks("a knight", "....Kk .*.*.. *...*. ..N... *...*. .*.*..");
        checks.attacks("it leaps over kings", "...... .*.*.. *.K.*. ..Nk.. *...*. .*.*..");
        checks.attacks("it attacks kings, too", "...... .w.*.. *...*. ..N... *...S. .*.*..");
        checks.attacks("in the first corner", "K..k .*.. ..*. N...");
        checks.attacks("in the last corner", "...N .*.. ..*. K..k");
        checks.attacks("in the right corner", "k... ..*. .*.. K..N");
        checks.attacks("at the left edge", ".*...K ..*... N..... ..*... .*.... .....k");
        checks.attacks("beside the left edge",
                "K.k..... ........ *.*..... ...*.... .N...... ...*.... *.*..... ........");
        checks.attacks("beside the right edge",
                "K.k..... ........ .....*.* ....*... ......N. ....*... .....*.* ........");
    }

    private void bishopAttacks() {
        checks.attacks("a bishop", "*...* .*.*. K.B.k .*.*. *...*");
        checks.attacks("in the first corner", "...* ..*. .*.. B.Kk");
        checks.attacks("in the left upper corner", "B.Kk .*.. ..*. ...*");
        checks.attacks("at the right edge", "K*.. k.*. ...B ..*.");
        checks.attacks("on the greatest board",
                ".......* *.....*. .*...*.. ..*.*... Kk.B.... ..*.*... .*...*.. *.....*.");
    }

    private void rookAttacks() {
        checks.attacks("a rook", "K.*.k ..*.. **R** ..*.. ..*..");
        checks.attacks("in the right corner", "K..* ...* k..* ***R");
        checks.attacks("in the last corner", "***R K..* ...* k..*");
        checks.attacks("on the greatest board",
                "*....... *.K..... *....... *...k... *....... *....... R******* *.......");
    }

    private void queenAttacks() {
        checks.attacks("a queen", "*.*.* .***. **Q** .***. *K*k*");
        checks.attacks("in the last corner", "***Q K.** .*.* *k.*");
        checks.attacks("on the greatest board",
                ".K.*...* *..*..*. .*.*.*.. ..***... ***Q**** ..***... .*.*.*k. *..*..*.");
    }

    /** "all squares up to the first one with a king on it, that one, too" */
    private void linesEndAtTheFirstKing() {
        checks.attacks("up to the strong king", "*...k *.... *.... *.... R*S..");
        checks.attacks("up to the weak king", "*...K *.... *.... *.... R*w..");
        checks.attacks("the weak king second", "*.... *.... *.... *.... R*S.k");
        checks.attacks("the strong king second", "*.... *.... *.... *.... R*w.K");
        checks.attacks("the strong king at once", "*.... *.... *.... *.... RS..k");
        checks.attacks("the weak king at once", "*.... *.... *.... *.... Rw.K.");
        checks.attacks("a king at the end of the line", "*.... *.K.. *.... *.... R***w");
        checks.attacks("kings left and right", "..*.. ..*.. ..*.. ..*.. S*R*w");
        checks.attacks("kings above and below", "..... ..S.. **R** ..*.. ..w..");
        checks.attacks("askew, the strong king", "....k ..... ..S.. .*... B....");
        checks.attacks("askew, the weak king", "....K ..... ..w.. .*... B....");
        checks.attacks("askew, left and down", "....B ...*. ..w.. ..... K....");
        checks.attacks("askew, left and up", "K.... .w... ..*.. ...*. ....B");
        checks.attacks("askew, right and down", "B.... .*... ..S.. ..... ....k");
        checks.attacks("a queen askew", "*...k *.... *.S.. **... Q****");
        checks.attacks("a queen straight", "*...* *..*. *.*.. **... Q*w.K");
    }

    /** "the two squares askew before it, on the next higher rank" */
    private void pawnAttacks() {
        checks.attacks("a pawn", "K...k .*.*. ..P.. ..... .....");
        checks.attacks("on the first file", "K..k .*.. P... ....");
        checks.attacks("on the last file", "K..k ..*. ...P ....");
        checks.attacks("before the last rank", "*.*. .P.. .... K..k");
        checks.attacks("kings, too", "S.w. .P.. .... ....");
        checks.attacks("on rank 0", "K..k .... *.*. .P..");
        checks.attacks("in the first corner", "K..k .... .*.. P...");
        checks.attacks("no rank is higher", ".P.. .... .... K..k");
        checks.attacks("no rank is higher, in the last corner", "...P .... .... K..k");
    }

    /** "A POSITION is three different squares and a side" */
    private void threeDifferentSquares() {
        for (int n = 4; n <= 8; n++) {
            int low = n + 1;
            int high = n * n - n - 1;
            for (int man = PAWN; man <= QUEEN; man++) {
                checks.noPosition("strong king and man on one square", n, man, low, low, high);
                checks.noPosition("man and weak king on one square", n, man, high, low, low);
                checks.noPosition("both kings on one square", n, man, high, low, high);
                checks.noPosition("all on one square", n, man, low, low, low);
            }
            checks.noPosition("all on the first square", n, QUEEN, 0, 0, 0);
            checks.noPosition("all on the last", n, QUEEN, n * n - 1, n * n - 1, n * n - 1);
        }
    }

    /** "where the kings do not attack one another" */
    private void kingsApart() {
        checks.noPosition("side by side", "Kk.. .... .... ...N");
        checks.noPosition("one above the other", "K... k... .... ...N");
        checks.noPosition("askew", "K... .k.. .... ..N.");
        checks.noPosition("askew the other way", ".k.. K... .... ...N");
        checks.isPosition("two files apart", "K.k. .... .... N...");
        checks.isPosition("two ranks apart", "K... .... k... ...N");
        checks.isPosition("two files and two ranks apart", "K... .... ..k. ...N");
        checks.isPosition("a file and two ranks apart", "K... .... .k.. N...");
        checks.isPosition("the next number at the other edge", ".... k... ...K N...");
        checks.isPosition("with the man between them", "KNk. .... .... ....");
    }

    /** "a pawn is not on the ranks 0 and N - 1", but other men are, and pawns on all between. */
    private void ranksOfAPawn() {
        for (int n = 4; n <= 8; n++) {
            int top = n * (n - 1);
            for (int file = 0; file < n; file++) {
                int high = top + file;
                checks.noPosition("a pawn on rank 0", n, PAWN, 2 * n, file, 3 * n - 1);
                checks.noPosition("a pawn on rank N - 1", n, PAWN, n, high, 2 * n - 1);
                checks.isPosition("a pawn on rank 1", n, PAWN, top, n + file, top + n - 1);
                checks.isPosition("a pawn on rank N - 2", n, PAWN, 0, high - n, n - 1);
                for (int man = KNIGHT; man <= QUEEN; man++) {
                    checks.noneThrows("on rank 0", n, man, 2 * n, file, 3 * n - 1, WEAK);
                    checks.noneThrows("on rank N - 1", n, man, n, high, 2 * n - 1, WEAK);
                }
            }
        }
    }

    /** "if the strong side is to move, the weak king is not in check" */
    private void check() {
        checks.inCheck("by a pawn to its right", "..k. .P.. .... K...");
        checks.inCheck("by a pawn to its left", "k... .P.. .... K...");
        checks.inCheck("by a knight", "k... ..N. .... K...");
        checks.inCheck("by a bishop", "...k .... .... B.K.");
        checks.inCheck("by a bishop next to it", "k... .B.. .... ..K.");
        checks.inCheck("by a rook on its rank", "k..R .... .... K...");
        checks.inCheck("by a rook on its file", "...k .... K... ...R");
        checks.inCheck("by a queen straight", "k..Q .... .... K...");
        checks.inCheck("by a queen askew", "...k .... .... Q.K.");
        checks.isPosition("a pawn straight below", ".k.. .P.. .... K...");
        checks.isPosition("a pawn above", "K... .... .P.. k...");
        checks.isPosition("a pawn beside", "K... .... .Pk. ....");
        checks.isPosition("a knight beside", "kN.. .... .... K...");
        checks.isPosition("a bishop beside", "kB.. .... .... K...");
        checks.isPosition("a rook askew", "k... .R.. .... K...");
        checks.isPosition("a queen a knight's leap away", "k... ..Q. .... K...");
        checks.isPosition("a rook behind the strong king", "..... ..... ..... ..... R.K.k");
        checks.isPosition("a bishop behind the strong king", "....k ..... ..K.. ..... B....");
        checks.isPosition("a queen behind the strong king", "....k ..... ..K.. ..... Q....");
    }

    /** "a king goes to a square beside it" "where no other one of the three stands" */
    private void kingMoves() {
        checks.moves("weak, corner", "...KN ..... ..... ..... k....", WEAK, 3);
        checks.moves("weak, lower edge", "...KN ..... ..... ..... ..k..", WEAK, 5);
        checks.moves("weak, left edge", "...KN ..... k.... ..... .....", WEAK, 5);
        checks.moves("weak, right edge", "NK... ..... ....k ..... .....", WEAK, 5);
        checks.moves("weak, inside", "...KN ..... ..... .k... .....", WEAK, 8);
        checks.moves("strong, corner, and a pawn's move",
                "....k ..... ..... ....P K....", STRONG, 3 + 1);
        checks.moves("strong, inside, and a pawn's move",
                "k..... ...... ...... P..K.. ...... ......", STRONG, 8 + 1);
        checks.moves("strong, not upon the man",
                "k..... ...... ...... ..PK.. ...... ......", STRONG, 7 + 1);
        kingsGoIntoCorners();
    }

    /** Beside a corner all eight squares are free, the corner's, too; the pawn has one move. */
    private void kingsGoIntoCorners() {
        checks.moves("strong, to the first square", "....k ..... ....P .K... .....", STRONG, 8 + 1);
        checks.moves("strong, to the last of rank 0", "k.... ..... P.... ...K. .....", STRONG, 8 + 1);
        checks.moves("strong, to the first of rank N - 1",
                "..... .K... ....P ..... ....k", STRONG, 8 + 1);
        checks.moves("strong, to the last square", "..... ...K. P.... ..... k....", STRONG, 8 + 1);
        checks.moves("weak, to the first square", "...KN ..... ..... .k... .....", WEAK, 8);
        checks.moves("weak, to the last of rank 0", "NK... ..... ..... ...k. .....", WEAK, 8);
        checks.moves("weak, to the first of rank N - 1", "..... .k... ..... ..... ...KN", WEAK, 8);
        checks.moves("weak, to the last square", "..... ...k. ..... ..... NK...", WEAK, 8);
        checks.best("strong, the first square is best", "k... ..R. .... .K..", STRONG, 1 + 64 * 0);
        checks.best("weak, the first square is best", ".... .... kPK. ....", WEAK, 4 + 64 * 0);
        checks.best("weak, the last square is best", ".... ...k .... K.Q.", WEAK, 11 + 64 * 15);
    }

    /** "a man but a pawn to one that it attacks, where no other one of the three stands" */
    private void manMoves() {
        checks.moves("a knight", "...k .... .... NK..", STRONG, 2 + 4);
        checks.moves("a knight not upon its king", "...k .... ..K. N...", STRONG, 1 + 6);
        checks.moves("a bishop", "k... .... .... B..K", STRONG, 3 + 3);
        checks.moves("a bishop not upon its king", "k.... ..... ..K.. ..... B....", STRONG, 1 + 7);
        checks.moves("a rook", "..k. .... .... RK..", STRONG, 3 + 4);
        checks.moves("a rook between two edges and its king",
                "....k ..... K.... ..... R....", STRONG, 5 + 5);
        checks.moves("a queen as free as can be",
                "........ .....k.. ........ .K...... ...Q.... ........ ........ ........",
                STRONG, 27 + 8);
    }

    /** "the weak king can take the man", if the strong king does not stand beside it */
    private void takingTheMan() {
        checks.moves("a pawn", "...K .... .P.. k...", WEAK, 2 + 1);
        checks.moves("a knight", "...K .... .N.. k...", WEAK, 2 + 1);
        checks.moves("a bishop", "...K .... .... kB..", WEAK, 1 + 1);
        checks.moves("a rook", "...K .... .R.. k...", WEAK, 1);
        checks.moves("a queen that gives check", "...K .... .Q.. k...", WEAK, 1);
        checks.moves("a pawn with its king beside", ".... ..K. .P.. k...", WEAK, 2);
        checks.moves("a knight with its king beside", ".... ..K. .N.. k...", WEAK, 2);
        checks.moves("a bishop with its king beside", ".... .... ..K. kB..", WEAK, 0);
        checks.moves("a rook with its king beside", ".... ..K. .R.. k...", WEAK, 0);
        checks.moves("a queen with its king beside", ".... ..K. .Q.. k...", WEAK, 0);
        checks.moves("with the king two squares off", ".... ...K .R.. k...", WEAK, 1);
    }

    /** "A pawn goes one rank up, if that square is empty" */
    private void pawnGoesOneRank() {
        checks.moves("on the smallest board", "..k. .... .P.. K...", STRONG, 1 + 2);
        checks.moves("on five squares a side", "....k ..... ..... P.... ....K", STRONG, 1 + 3);
        checks.moves("the strong king before it", "....k ..... K.... P.... .....", STRONG, 4);
        checks.moves("the weak king before it", "..... ..... k.... P.... ....K", STRONG, 3);
    }

    /** "from rank 1 also two, if both are, and N is 6 or more" */
    private void pawnGoesTwoRanks() {
        for (int n = 4; n <= 8; n++) {
            int top = n * n - 1;
            int corner = n - 1;
            int pawn = n;
            int mirrored = 2 * n - 1;
            EndTables x = checks.object(n, 3);
            String on = "rank 1, N = " + n;
            int due = 3 + (n >= 6 ? 2 : 1);
            checks.answers.due(on, () -> x.moves(PAWN, corner, pawn, top, STRONG), due);
            checks.answers.due(on, () -> x.moves(PAWN, 0, mirrored, top - corner, STRONG), due);
            if (n >= 5) {
                checks.answers.due("rank 2, N = " + n,
                        () -> x.moves(PAWN, corner, 2 * pawn, top, STRONG), 3 + 1);
            }
        }
        String first = "the first square is not empty";
        checks.moves(first, "...... ...... ...... k..... P..... .....K", STRONG, 3);
        checks.moves(first, ".....k ...... ...... K..... P..... ......", STRONG, 4);
        checks.distance(first, "....... ....... ....... ....... K...... P.k.... .......", STRONG, 23);
        checks.distance(first,
                "........ ........ ........ ........ ........ K.....k. P....... ........", STRONG, 29);
        String second = "the second square is not empty";
        checks.moves(second, "...... ...... k..... ...... P..... .....K", STRONG, 3 + 1);
        checks.moves(second, ".....k ...... K..... ...... P..... ......", STRONG, 5 + 1);
        String two = "two ranks are best";
        checks.best(two, "...... ...... ...... ...... P.k... K.....", STRONG, 6 + 64 * 18);
        checks.best(two, "....... ....... ....... ....... ....... P.k.... K......", STRONG, 7 + 64 * 21);
        checks.best(two, "........ ........ ........ ........ ........ ........ P.k..... K.......",
                STRONG, 8 + 64 * 24);
    }

    /** "On rank N - 1 it becomes a queen, rook, bishop or knight at once." */
    private void pawnBecomes() {
        for (int n = 4; n <= 8; n++) {
            int corner = n - 1;
            int before = n * (n - 2);
            for (int file = 0; file < n; file++) {
                int pawn = before + file;
                int above = pawn + n;
                EndTables x = checks.object(n, 4);
                checks.answers.due("four to become, pawn on " + pawn + ", N = " + n,
                        () -> x.moves(PAWN, 0, pawn, corner, STRONG), 3 + 4);
                checks.answers.due("the weak king on its square, pawn on " + pawn + ", N = " + n,
                        () -> x.moves(PAWN, 0, pawn, above, STRONG), 3);
                checks.answers.due("a queen or a rook is made, pawn on " + pawn + ", N = " + n,
                        () -> x.play(PAWN, 0, pawn, corner, STRONG, 200) % 2, 1);
                checks.answers.due("it is no pawn at the mate, pawn on " + pawn + ", N = " + n,
                        () -> x.line(0) >= ROOK ? 1 : 0, 1);
            }
        }
        checks.moves("its own king on the square", "K... P... .... ...k", STRONG, 2);
        checks.play("a queen at once", ".... P... .... K.k.", STRONG, 1, 1, QUEEN, 0, 12, 2, 0, 6);
        checks.play("a rook, as a queen leaves no move", ".... .P.. .K.. ...k", STRONG, 1,
                1, ROOK, 5, 13, 3, 0, 2);
        checks.play("no sooner", "...k .... PK.. ....", STRONG, 1, 1, PAWN, 6, 4, 15, 0, 4);
    }

    /** "Behind a move it must be a position again": the strong king not beside the weak one. */
    private void behindAStrongMove() {
        checks.moves("not beside the weak king", "K.k. .... .... ...N", STRONG, 1 + 2);
        checks.moves("it may open its rook's line", "..... ..... ..... ..... R.K.k", STRONG, 5 + 3);
        checks.moves("no move at all", "K.k. P... .... ....", STRONG, 0);
    }

    /** "for the weak side's move its king must not be attacked" */
    private void behindAWeakMove() {
        checks.moves("not beside the strong king", "K.k. .... .... N...", WEAK, 3);
        checks.moves("not into a rook's line", "k... .... .... .R.K", WEAK, 1);
        checks.moves("not along the line it stands in", "....K ..... ..... ..... R.k..", WEAK, 3);
        checks.moves("not along a line askew", "K.... ..... ..k.. ..... B....", WEAK, 5);
        checks.moves("not before a pawn askew", "k... P... .... ...K", WEAK, 1 + 1);
        checks.moves("not into a knight's leap", "k... ...N .... ..K.", WEAK, 2);
        checks.moves("behind the strong king the line is shut",
                "..... ..... ..... ....k R.K..", WEAK, 3);
    }

    /** "two kings alone, which is no mate" and have no distance */
    private void twoKingsAlone() {
        checks.distance("the queen must be taken", "...K .... .Q.. k...", WEAK, -1);
        checks.distance("the rook must be taken", "...K .... .R.. k...", WEAK, -1);
        checks.distance("the rook can be taken", "....K ..... ..... .kR.. .....", WEAK, -1);
        checks.best("the queen must be taken", "...K .... .Q.. k...", WEAK, -1);
        checks.play("the queen must be taken", "...K .... .Q.. k...", WEAK, 200,
                0, QUEEN, 15, 5, 0, 0, -1);
    }

    /** "in check, without a move is MATE: its DISTANCE is 0" */
    private void mate() {
        checks.distance("by a rook", "k..R .... K... ....", WEAK, 0);
        checks.distance("by a rook from above", "...R .... .... .K.k", WEAK, 0);
        checks.distance("by a queen that cannot be taken", "k... .Q.. ..K. ....", WEAK, 0);
        checks.distance("by a queen from afar", "k..Q .... K... ....", WEAK, 0);
        checks.distance("on the greatest board",
                "R.....k. ........ ......K. ........ ........ ........ ........ ........", WEAK, 0);
        checks.moves("mate has no move", "k..R .... K... ....", WEAK, 0);
        checks.best("mate has no move", "k..R .... K... ....", WEAK, -1);
        checks.distance("in check with a move", "k..R .... ..K. ....", WEAK, 4);
        checks.distance("the man can be taken", "k... .Q.. .... ..K.", WEAK, -1);
        for (int n = 4; n <= 8; n++) {
            EndTables x = checks.object(n, 1);
            checks.answers.due("no pawn mates, N = " + n, () -> x.count(PAWN, WEAK, 0), 0);
        }
    }

    /** Not in check and without a move: no mate, and no distance. */
    private void noMoveWithoutCheck() {
        String[] drawn = {"k... ..Q. .... ...K", "k... P... K... ....", ".... ..K. .R.. k...",
            ".... .... ..K. kB.."};
        for (String board : drawn) {
            checks.moves(board, board, WEAK, 0);
            checks.distance(board, board, WEAK, -1);
            checks.best(board, board, WEAK, -1);
        }
        checks.distance("the strong side without a move", "K.k. P... .... ....", STRONG, -1);
        checks.best("the strong side without a move", "K.k. P... .... ....", STRONG, -1);
    }

    /** "all its moves lead to positions that have one: 1 more than the greatest of these" */
    private void distanceOfTheWeakSide() {
        checks.distance("behind 2-3", ".... .... .P.. K..k", STRONG, 11);
        checks.distance("behind 2-6", ".... .... .Pk. K...", STRONG, 15);
        checks.distance("behind 2-7", ".... .... .P.k K...", STRONG, 15);
        checks.distance("the greatest of 11, 15, 15", ".... .... .P.. K.k.", WEAK, 16);
        checks.distance("behind 2-3", ".... .... P... K..k", STRONG, 7);
        checks.distance("behind 2-6", ".... .... P.k. K...", STRONG, -1);
        checks.distance("behind 2-7", ".... .... P..k K...", STRONG, 9);
        checks.distance("one of its moves has none", ".... .... P... K.k.", WEAK, -1);
    }

    /** "if one of its moves leads to a position that has one: 1 more than the least" */
    private void distanceOfTheStrongSide() {
        checks.distance("mate in one", "k... ...R K... ....", STRONG, 1);
        checks.distance("behind becoming a queen", "Q... .... .... K.k.", WEAK, 6);
        checks.distance("behind becoming a rook", "R... .... .... K.k.", WEAK, 10);
        checks.distance("behind becoming a bishop", "B... .... .... K.k.", WEAK, -1);
        checks.distance("behind the king's move", ".... P... K... ..k.", WEAK, 8);
        checks.distance("the least of 6, 8, 10", ".... P... .... K.k.", STRONG, 7);
        checks.distance("one move of many has one", "...k. ..... ..... .K.P. .....", STRONG, 25);
    }

    /** "All others, and two kings alone, have none." Going round for ever is not finitely many. */
    private void noDistance() {
        for (int n = 4; n <= 8; n++) {
            int last = n * n - 1;
            EndTables x = checks.object(n, 4);
            for (int k = 0; k < 2; k++) {
                int man = k == 0 ? KNIGHT : Checks.BISHOP;
                String on = "man " + man + ", N = " + n;
                checks.answers.due(on, () -> x.distance(man, 0, 1, last, STRONG), -1);
                checks.answers.due(on, () -> x.distance(man, 0, 1, last, WEAK), -1);
            }
        }
        checks.distance("the weak king stays before the pawn",
                ".k... ..... .P... .K... .....", WEAK, -1);
    }

    /** "NONE = -1: There is none." */
    private void noneIsMinusOne() {
        checks.answers.due("NONE", () -> EndTables.NONE, -1);
    }
}
