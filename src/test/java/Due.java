/** Counts and prints the answers that are not as due. */
final class Due {
    private int calls = 0;
    private int wrong = 0;

    void is(String call, long got, long want) {
        calls++;
        if (got != want) {
            wrong++;
            System.out.println(call + " answered " + got + ", due is " + want);
        }
    }

    int calls() {
        return calls;
    }

    boolean isAllRight() {
        return wrong == 0;
    }

    /** Ends the test: with exit code 1, if one was wrong. */
    void end() {
        System.out.println(wrong == 0 ? calls + " answers are as due" : wrong + " of " + calls + " answers are not as due");
        if (wrong != 0) {
            System.exit(1);
        }
    }
}
