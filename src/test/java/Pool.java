/** Gives objects that still have calls left, as an object is used for at most 512 of them. */
final class Pool {
    private static final int CALLS_OF_AN_OBJECT = 512;

    /** By the number of squares a side. */
    private final EndTables[] objects = new EndTables[9];
    private final int[] calls = new int[9];

    /** An object with n squares a side, for as many calls. */
    EndTables object(int n, int callsNeeded) {
        if (objects[n] == null || calls[n] + callsNeeded > CALLS_OF_AN_OBJECT) {
            objects[n] = new EndTables(n);
            calls[n] = 0;
        }
        calls[n] += callsNeeded;
        return objects[n];
    }
}
