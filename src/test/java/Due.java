/** Counts the answers that are not as due, and says which. */
final class Due {
    private int wrong;

    void is(String call, long got, long want) {
        if (got != want) {
            wrong++;
            System.out.println(call + " answered " + got + ", due is " + want);
        }
    }

    void end(String name) {
        System.out.println(wrong == 0 ? name + ": all answers are as due" : name + ": " + wrong + " are not as due");
        if (wrong != 0) {
            System.exit(1);
        }
    }
}
