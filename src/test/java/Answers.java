import java.util.function.IntSupplier;

/** Compares answers with what is due; an exception is an answer, too. */
final class Answers {
    private int asked = 0;
    private int wrong = 0;

    static String of(IntSupplier call) {
        try {
            return Integer.toString(call.getAsInt());
        } catch (RuntimeException e) {
            return "throws." + e.getClass().getSimpleName();
        }
    }

    void due(String call, IntSupplier got, int want) {
        due(call, of(got), Integer.toString(want));
    }

    void dueThrow(String call, IntSupplier got, String exception) {
        due(call, of(got), "throws." + exception);
    }

    /** Any answer is due, but no exception. */
    void dueAnswer(String call, IntSupplier got) {
        String answer = of(got);
        due(call, answer.startsWith("throws") ? answer : "an answer", "an answer");
    }

    void due(String call, String got, String want) {
        asked++;
        if (!got.equals(want)) {
            wrong++;
            if (wrong <= 50) {
                System.out.println(call + " answered " + got + ", due is " + want);
            }
        }
    }

    void end(String test) {
        System.out.println(test + ": " + asked + " answers, " + wrong + " of them wrong");
        if (wrong != 0 || asked == 0) {
            System.exit(1);
        }
    }
}
