/** Counts the answers that are not due, and tells each of them. */
final class Dues {
    private int wrong;
    private int held;

    void due(String call, Object got, Object want) {
        held++;
        if (!want.equals(got)) {
            wrong++;
            System.out.println(call + " answered " + got + ", due is " + want);
        }
    }

    void end(String test) {
        System.out.println(test + ": " + held + " answers, " + wrong + " not due");
        if (wrong != 0) {
            System.exit(1);
        }
    }
}
