/** Keeps count of the answers that are not the ones that are due. */
final class Due {
    private static final int TOLD = 50;

    private int right;
    private int wrong;
    private String part = "";

    void part(String name) {
        part = name;
    }

    void is(String call, long got, long want) {
        if (got == want) {
            right++;
            return;
        }
        wrong++;
        if (wrong <= TOLD) {
            System.out.println(part + ": " + call + " answered " + got + ", due is " + want);
        }
    }

    /** Ends the program: exit code 1 if an answer was not as due. */
    void end(String name) {
        System.out.println(name + ": " + right + " answers as due, " + wrong + " not");
        if (wrong != 0 || right == 0) {
            System.exit(1);
        }
    }
}
