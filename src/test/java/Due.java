/** Holds answers against those that are due, and tells each one that is not. */
final class Due {
    private final String name;
    private int asked;
    private int wrong;

    Due(String name) {
        this.name = name;
    }

    void is(String call, long got, long due) {
        is(call, Long.toString(got), Long.toString(due));
    }

    void is(String call, boolean got, boolean due) {
        is(call, Boolean.toString(got), Boolean.toString(due));
    }

    void is(String call, String got, String due) {
        asked++;
        if (!got.equals(due)) {
            wrong++;
            System.out.println(name + ": " + call + " answered " + got + ", due is " + due);
        }
    }

    boolean allRight() {
        return wrong == 0;
    }

    void end() {
        System.out.println(name + ": " + asked + " answers, " + wrong + " not as due");
        if (wrong != 0) {
            System.exit(1);
        }
    }
}
