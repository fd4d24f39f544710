/** What the tests share: a count of wrong answers, and calls that many of them make. */
final class Check {
    private static int wrong = 0;
    private static int made = 0;

    private Check() {
    }

    static void due(String call, long got, long want) {
        made++;
        if (got != want) {
            wrong++;
            System.out.println(call + " answered " + got + ", due is " + want);
        }
    }

    static void holds(String what, boolean true_) {
        due(what, true_ ? 1 : 0, 1);
    }

    /** Lays a text on the tape. */
    static void type(LockStaircase x, String text) {
        for (int i = 0; i < text.length(); i++) {
            x.feed(text.charAt(i));
        }
    }

    /** Tells boats by a text. */
    static int tell(LockStaircase x, String text) {
        type(x, text);
        return x.boats();
    }

    /** The number of the boat of this name. */
    static int named(LockStaircase x, String name) {
        type(x, name);
        return x.find();
    }

    static void end(String test) {
        System.out.println(test + ": " + made + " answers, " + wrong + " wrong");
        if (wrong != 0) {
            System.exit(1);
        }
    }
}
