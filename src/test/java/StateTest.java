import java.util.ArrayList;
import java.util.List;
import java.util.function.ToIntFunction;

/**
 * "What throws changes nothing", "Of several exceptions that hold the first one listed is thrown"
 * and "An object is used for at most 512 calls": what is about calls behind one another.
 */
public final class StateTest {
    private static final boolean STRONG = Checks.STRONG;
    private static final boolean WEAK = Checks.WEAK;
    private static final int PAWN = Checks.PAWN;
    private static final int BISHOP = Checks.BISHOP;
    private static final int ROOK = Checks.ROOK;
    private static final int QUEEN = Checks.QUEEN;
    private static final int CALLS_OF_AN_OBJECT = 512;

    /** A call, with what is due where it throws. */
    private record Call(String told, ToIntFunction<EndTables> made, String due) {
        String answerOf(EndTables x) {
            return Answers.of(() -> made.applyAsInt(x));
        }
    }

    private final Answers answers = new Answers();

    public static void main(String[] args) {
        StateTest test = new StateTest();
        test.throwingChangesNothing();
        test.throwingAgainAndAgain();
        test.firstListedIsThrown();
        test.lastOfAllCalls();
        test.orderOfCallsIsFree();
        test.objectsAreTheirOwn();
        test.answers.end("StateTest");
    }

    /** One object for every call that throws, before it a play() or none, behind it all answers. */
    private void throwingChangesNothing() {
        for (int n = 4; n <= 8; n += 4) {
            for (int before = 0; before < 4; before++) {
                EndTables undisturbed = objectBehind(n, before);
                List<String> due = allAnswers(undisturbed);
                for (Call call : throwingCalls(n)) {
                    EndTables x = objectBehind(n, before);
                    answers.due(call.told(), call.answerOf(x), call.due());
                    if (n == 4) {
                        answers.due("all answers behind " + call.told() + ", " + before,
                                allAnswers(x).toString(), due.toString());
                    } else {
                        answers.due("line() behind " + call.told() + ", " + before,
                                lines(x).toString(), due.subList(0, 6).toString());
                    }
                }
            }
        }
    }

    private void throwingAgainAndAgain() {
        EndTables x = objectBehind(4, 1);
        List<String> due = allAnswers(objectBehind(4, 1));
        for (int round = 0; round < 5; round++) {
            for (Call call : throwingCalls(4)) {
                answers.due(call.told(), call.answerOf(x), call.due());
            }
        }
        answers.due("all answers behind many that threw", allAnswers(x).toString(), due.toString());
    }

    /** A new object; one that has played to a mate; one that has played none; one without distance. */
    private static EndTables objectBehind(int n, int before) {
        EndTables x = new EndTables(n);
        if (before == 1) {
            x.play(ROOK, 0, n + 2, n * n - 1, STRONG, 200);
        } else if (before == 2) {
            x.play(PAWN, 0, n + 1, n * n - 1, STRONG, 0);
        } else if (before == 3) {
            x.play(BISHOP, 0, 1, n * n - 1, WEAK, 200);
        }
        return x;
    }

    private static List<String> lines(EndTables x) {
        List<String> all = new ArrayList<>();
        for (int k = 0; k < 6; k++) {
            int w = k;
            all.add(Answers.of(() -> x.line(w)));
        }
        return all;
    }

    private static List<String> allAnswers(EndTables x) {
        int last = x.look(1) - 1;
        List<String> all = lines(x);
        all.add(Answers.of(() -> x.look(0)));
        for (int k = PAWN; k <= QUEEN; k++) {
            int man = k;
            int p = x.look(0) + 2;
            all.add(Answers.of(() -> x.distance(man, 0, p, last, WEAK)));
            all.add(Answers.of(() -> x.moves(man, 0, p, last, WEAK)));
            all.add(Answers.of(() -> x.best(man, 0, p, last, WEAK)));
            all.add(Answers.of(() -> x.attacks(man, 0, p, last, 1)));
            all.add(Answers.of(() -> x.count(man, STRONG, -1)));
            all.add(Answers.of(() -> x.longest(man)));
        }
        all.addAll(lines(x));
        return all;
    }

    /** Each method with each exception that is listed for it. */
    private static List<Call> throwingCalls(int n) {
        int last = n * n - 1;
        String argument = "throws." + Checks.ARGUMENT;
        String state = "throws." + Checks.STATE;
        String index = "throws." + Checks.INDEX;
        return List.of(
                new Call("distance, man", x -> x.distance(0, 0, n + 2, last, STRONG), argument),
                new Call("distance, square", x -> x.distance(5, 0, last + 1, 3, STRONG), argument),
                new Call("distance, no position", x -> x.distance(5, 0, 3, 3, STRONG), state),
                new Call("moves, man", x -> x.moves(6, 0, n + 2, last, WEAK), argument),
                new Call("moves, square", x -> x.moves(4, -1, n + 2, last, WEAK), argument),
                new Call("moves, no position", x -> x.moves(4, 0, 3, 1, WEAK), state),
                new Call("best, man", x -> x.best(-1, 0, n + 2, last, STRONG), argument),
                new Call("best, square", x -> x.best(3, 0, n + 2, -9, STRONG), argument),
                new Call("best, no position", x -> x.best(1, 0, 2, last, STRONG), state),
                new Call("play, man", x -> x.play(9, 0, n + 2, last, STRONG, 3), argument),
                new Call("play, square", x -> x.play(2, 0, 99, last, STRONG, 3), argument),
                new Call("play, no position", x -> x.play(5, 0, last - 1, last, STRONG, 3), state),
                new Call("play, n too small", x -> x.play(5, 0, 9, last - 1, WEAK, -1), argument),
                new Call("play, n too large", x -> x.play(4, 2, 9, last, WEAK, 201), argument),
                new Call("line, too small", x -> x.line(-1), index),
                new Call("line, too large", x -> x.line(6), index),
                new Call("count, man", x -> x.count(0, STRONG, 1), argument),
                new Call("count, d", x -> x.count(3, STRONG, -3), argument),
                new Call("longest, man", x -> x.longest(6), argument),
                new Call("attacks, man", x -> x.attacks(6, 0, 1, 2, 3), argument),
                new Call("attacks, square", x -> x.attacks(5, 0, 1, 2, last + 1), argument),
                new Call("attacks, one square", x -> x.attacks(5, 1, 1, 2, 3), argument));
    }

    /** Where an argument is wrong and it is no position either: the first one listed. */
    private void firstListedIsThrown() {
        String due = "throws." + Checks.ARGUMENT;
        List<Call> calls = List.of(
                new Call("distance, man", x -> x.distance(0, 5, 5, 5, STRONG), due),
                new Call("distance, square", x -> x.distance(4, 5, 5, 16, STRONG), due),
                new Call("moves, man", x -> x.moves(6, 5, 5, 6, WEAK), due),
                new Call("moves, square", x -> x.moves(4, -1, 5, 5, WEAK), due),
                new Call("best, man", x -> x.best(0, 5, 0, 5, STRONG), due),
                new Call("best, square", x -> x.best(1, 5, 16, 6, STRONG), due),
                new Call("play, man", x -> x.play(0, 5, 5, 5, STRONG, 1), due),
                new Call("play, square", x -> x.play(4, 5, 5, 16, STRONG, 1), due),
                new Call("play, n too small", x -> x.play(4, 5, 5, 5, STRONG, -1), due),
                new Call("play, n too large", x -> x.play(4, 5, 5, 5, WEAK, 201), due),
                new Call("play, n and kings", x -> x.play(4, 0, 15, 1, WEAK, 201), due),
                new Call("play, n and a pawn's rank", x -> x.play(1, 0, 2, 15, WEAK, 201), due),
                new Call("play, n and check", x -> x.play(4, 4, 15, 12, STRONG, 201), due));
        EndTables x = new EndTables(4);
        for (Call call : calls) {
            answers.due(call.told(), call.answerOf(x), call.due());
        }
    }

    /** The 512th call still answers as promised, whatever it is and whatever came before. */
    private void lastOfAllCalls() {
        List<Call> calls = new ArrayList<>(throwingCalls(8));
        calls.addAll(List.of(
                new Call("distance", x -> x.distance(PAWN, 16, 14, 32, WEAK), "56"),
                new Call("moves", x -> x.moves(PAWN, 16, 14, 32, WEAK), "3"),
                new Call("best", x -> x.best(PAWN, 16, 14, 32, WEAK), "2144"),
                new Call("play", x -> x.play(PAWN, 16, 14, 32, WEAK, 200), "56"),
                new Call("line", x -> x.line(0), "4"),
                new Call("count", x -> x.count(PAWN, WEAK, 56), "4"),
                new Call("longest", x -> x.longest(PAWN), "56"),
                new Call("attacks", x -> x.attacks(ROOK, 1, 0, 2, 56), "1"),
                new Call("look", x -> x.look(1), "64")));
        for (Call call : calls) {
            EndTables x = new EndTables(8);
            x.play(PAWN, 16, 14, 32, WEAK, 200);
            for (int k = 2; k < CALLS_OF_AN_OBJECT; k++) {
                calls.get(k % calls.size()).answerOf(x);
            }
            answers.due("as the 512th call: " + call.told(), call.answerOf(x), call.due());
        }
    }

    /** Whichever man is asked for first, all answers are the same. */
    private void orderOfCallsIsFree() {
        for (int n = 4; n <= 8; n++) {
            List<String> due = allAnswers(new EndTables(n));
            for (int man = PAWN; man <= QUEEN; man++) {
                EndTables x = new EndTables(n);
                x.longest(man);
                answers.due("all answers behind longest(" + man + "), N = " + n,
                        allAnswers(x).toString(), due.toString());
            }
        }
    }

    private void objectsAreTheirOwn() {
        EndTables small = new EndTables(4);
        EndTables large = new EndTables(8);
        List<String> dueSmall = allAnswers(objectBehind(4, 1));
        List<String> dueLarge = allAnswers(objectBehind(8, 2));
        small.play(ROOK, 0, 6, 15, STRONG, 200);
        large.play(PAWN, 0, 9, 63, STRONG, 0);
        answers.due("the small one", allAnswers(small).toString(), dueSmall.toString());
        answers.due("the large one", allAnswers(large).toString(), dueLarge.toString());
    }
}
