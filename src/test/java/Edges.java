import java.lang.reflect.InvocationTargetException;
import java.lang.reflect.Method;
import java.util.Arrays;
import java.util.Comparator;
import java.util.regex.Pattern;

/**
 * What the tests of the document's boundary cases share. Each sentence of the document that names such a case has a
 * method of its own, p and the number of its promise ahead of its name, and the sentence quoted over it.
 */
abstract class Edges {
    static final int BAD = -1, NOT = -2, FULL = -3, STATE = -5, OVER = -7;
    static final int VOID = -2000000, NONE = -2000001, BARRED = -2000002;
    static final int LEAST_INT = Integer.MIN_VALUE, MOST_INT = Integer.MAX_VALUE;

    private static final Pattern TEST_NAME = Pattern.compile("p\\d\\d[A-Z]\\w*");
    private static String test = "";

    /** Runs each test of a class, so that none is left out of a list; each of these promises must have one. */
    static void runAll(Class<? extends Edges> tests, int firstPromise, int lastPromise) {
        Method[] methods = Arrays.stream(tests.getDeclaredMethods())
                .filter(m -> TEST_NAME.matcher(m.getName()).matches())
                .sorted(Comparator.comparing(Method::getName))
                .toArray(Method[]::new);
        for (int promise = firstPromise; promise <= lastPromise; promise++) {
            String start = "p" + promise / 10 + promise % 10;
            Check.holds("promise " + promise + " has an edge",
                    Arrays.stream(methods).anyMatch(m -> m.getName().startsWith(start)));
        }
        for (Method m : methods) {
            runOne(m);
        }
        Check.end(tests.getName() + ", " + methods.length + " edges");
    }

    private static void runOne(Method m) {
        test = m.getName();
        try {
            m.invoke(null);
        } catch (InvocationTargetException e) {
            Check.holds(test + " ends without " + e.getCause(), false);
        } catch (IllegalAccessException e) {
            Check.holds(test + " can be run", false);
        }
    }

    static void due(long got, long want) {
        Check.due(got == want ? test : test + place(), got, want);
    }

    static void holds(boolean so) {
        due(so ? 1 : 0, 1);
    }

    /** The line of the test that asked. */
    private static String place() {
        for (StackTraceElement frame : new Throwable().getStackTrace()) {
            if (frame.getMethodName().equals(test)) {
                return ", line " + frame.getLineNumber() + ",";
            }
        }
        return "";
    }

    /** A canal as at first, with the boats of a text. */
    static LockStaircase canal(int locks, String boats) {
        LockStaircase x = new LockStaircase();
        x.locks(locks);
        if (!boats.isEmpty()) {
            holds(tell(x, boats) > 0);
        }
        return x;
    }

    static void type(LockStaircase x, String text) {
        Check.type(x, text);
    }

    static int tell(LockStaircase x, String text) {
        return Check.tell(x, text);
    }

    static int named(LockStaircase x, String name) {
        return Check.named(x, name);
    }

    /** Makes a lock full by a boat that is gone then: its lockful, less what it held, comes from the reach above. */
    static void makeFull(LockStaircase x, int lock) {
        tell(x, "full+00" + lock);
        int boat = named(x, "full");
        x.pass(boat);
        x.leaves(boat);
        due(x.ofLock(lock, 3), 1);
    }

    /** Empties a full lock by a boat that is gone then: its share is held, the rest goes to the reach below. */
    static void makeEmpty(LockStaircase x, int lock) {
        tell(x, "void-00" + (lock + 1));
        int boat = named(x, "void");
        x.pass(boat);
        x.leaves(boat);
        due(x.ofLock(lock, 3), 0);
    }

    static void cause(LockStaircase x, int lock, int step, int reach, int side) {
        due(x.why(0), lock);
        due(x.why(1), step);
        due(x.why(2), reach);
        due(x.why(3), side);
    }

    /** All that an object tells of itself, but for why(): alike where nothing has changed. */
    static String picture(LockStaircase x) {
        StringBuilder all = new StringBuilder();
        for (int what = 0; what <= 5; what++) {
            all.append(x.count(what)).append(' ');
        }
        for (int lock = 0; lock < x.count(0); lock++) {
            for (int what = 0; what <= 3; what++) {
                all.append(x.ofLock(lock, what)).append(' ');
            }
        }
        for (int reach = 0; reach <= x.count(0); reach++) {
            for (int what = 0; what <= 4; what++) {
                all.append(x.ofReach(reach, what)).append(' ');
            }
        }
        pictureOfBoats(x, all);
        int unlike = x.tally(-1, 0);
        for (int i = 0; i < unlike; i++) {
            all.append(x.tally(i, 0)).append('*').append(x.tally(i, 1)).append(' ');
        }
        return all.append(x.account()).toString();
    }

    private static void pictureOfBoats(LockStaircase x, StringBuilder all) {
        int boats = x.count(1);
        for (int boat = 0; boat < boats; boat++) {
            int letters = x.boat(boat, 4);
            for (int i = 0; i < letters; i++) {
                all.append((char) x.boat(boat, 10 + i));
            }
            for (int what = 0; what <= 3; what++) {
                all.append('/').append(x.boat(boat, what));
            }
            all.append(' ');
        }
    }
}
