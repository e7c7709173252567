/** Counts the answers that are not the due ones, and tells each with the promise that it belongs to, if it does. */
final class Check {
    private final String name;
    private int promise;
    private int asked;
    private int wrong;

    Check(String name) {
        this.name = name;
    }

    void promise(int number) {
        promise = number;
    }

    void due(String call, long answer, long due) {
        asked++;
        if (answer != due) {
            wrong++;
            String where = promise == 0 ? "" : "promise " + promise + ": ";
            System.out.println(where + call + " answered " + answer + ", due is " + due);
        }
    }

    void that(String what, boolean holds) {
        due(what, holds ? 1 : 0, 1);
    }

    void end() {
        System.out.println(name + ": " + asked + " answers, " + wrong + " of them not as due");
        if (wrong != 0 || asked == 0) {
            System.exit(1);
        }
    }
}
