import java.lang.management.ManagementFactory;
import java.lang.reflect.Array;
import java.lang.reflect.Field;
import java.lang.reflect.Modifier;
import java.util.ArrayDeque;
import java.util.Collections;
import java.util.Deque;
import java.util.IdentityHashMap;
import java.util.Set;

/** An object with all its tables, and 512 calls of it, must fit the room that a run has. */
public final class RoomTest {
    private static final long MOST_ELEMENTS = 3_500_000;
    private static final long MOST_OBJECTS = 1_000;

    public static void main(String[] args) throws Exception {
        Answers answers = new Answers();
        EndTables x = new EndTables(8);
        for (int man = 1; man <= 5; man++) {
            x.longest(man);
        }
        long[] room = roomOf(x);
        System.out.println("an object of 8 squares a side: " + room[0] + " objects, "
                + room[1] + " fields and elements");
        answers.due("objects fit", room[0] <= MOST_OBJECTS ? "yes" : "no", "yes");
        answers.due("elements fit", room[1] <= MOST_ELEMENTS ? "yes" : "no", "yes");

        dearCalls(x);
        long before = allocated();
        dearCalls(x);
        long bytes = allocated() - before;
        answers.due("calls make nothing once the tables stand", bytes < 4096 ? "yes" : "no", "yes");
        throwingMakesNoTable(answers);
        answers.end("RoomTest");
    }

    /** What throws changes nothing, so it leaves no table behind either. */
    private static void throwingMakesNoTable(Answers answers) throws IllegalAccessException {
        EndTables x = new EndTables(8);
        long before = roomOf(x)[1];
        answers.dueThrow("a pawn on rank 0", () -> x.distance(1, 63, 1, 40, true), Checks.STATE);
        answers.dueThrow("no man", () -> x.best(6, 63, 1, 40, true), Checks.ARGUMENT);
        answers.dueThrow("n", () -> x.play(1, 63, 9, 40, true, 201), Checks.ARGUMENT);
        answers.dueThrow("d", () -> x.count(1, true, -3), Checks.ARGUMENT);
        answers.due("the room behind these", "" + roomOf(x)[1], "" + before);
    }

    private static void dearCalls(EndTables x) {
        for (int k = 0; k < 80; k++) {
            x.play(1, 0, 8, 63, true, 200);
            x.best(5, 0, 36, 62, true);
            x.moves(5, 0, 36, 62, true);
            x.count(5, true, -2);
            x.longest(1);
            x.attacks(5, 0, 36, 63, 35);
        }
    }

    private static long allocated() {
        com.sun.management.ThreadMXBean threads =
                (com.sun.management.ThreadMXBean) ManagementFactory.getThreadMXBean();
        return threads.getThreadAllocatedBytes(Thread.currentThread().getId());
    }

    /** How many objects and arrays can be reached, and how many fields and elements these have. */
    private static long[] roomOf(Object root) throws IllegalAccessException {
        long objects = 0;
        long elements = 0;
        Set<Object> seen = Collections.newSetFromMap(new IdentityHashMap<>());
        Deque<Object> open = new ArrayDeque<>();
        open.add(root);
        seen.add(root);
        while (!open.isEmpty()) {
            Object at = open.remove();
            objects++;
            if (at.getClass().isArray()) {
                elements += Array.getLength(at);
                if (at instanceof Object[]) {
                    for (Object part : (Object[]) at) {
                        enter(part, seen, open);
                    }
                }
                continue;
            }
            for (Field field : at.getClass().getDeclaredFields()) {
                if (Modifier.isStatic(field.getModifiers())) {
                    continue;
                }
                elements++;
                if (!field.getType().isPrimitive()) {
                    field.setAccessible(true);
                    enter(field.get(at), seen, open);
                }
            }
        }
        return new long[] {objects, elements};
    }

    private static void enter(Object part, Set<Object> seen, Deque<Object> open) {
        if (part != null && seen.add(part)) {
            open.add(part);
        }
    }
}
