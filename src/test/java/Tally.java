/** How many checks held and how many did not; a check that did not is printed. */
final class Tally {
    private int passed;
    private int failed;

    void check(String where, String got, String due) {
        if (got.equals(due)) {
            passed++;
        } else {
            failed++;
            System.out.println(where + " answered " + got + ", due is " + due);
        }
    }

    /** Prints the closing line, and ends the program with 1 if a check failed. */
    void close(String test) {
        System.out.println(test + ": " + passed + " passed, " + failed + " failed");
        if (failed != 0 || passed == 0) {
            System.exit(1);
        }
    }
}
