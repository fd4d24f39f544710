import java.lang.reflect.Constructor;
import java.lang.reflect.Field;
import java.lang.reflect.Method;
import java.lang.reflect.Modifier;
import java.util.Set;
import java.util.TreeSet;

/** The class has the document's face, and nothing beside it that others could see. */
public final class FaceTest {
    private static final String[] METHODS = {
        "int locks(int)", "int lock(int,int,int)", "int ofLock(int,int)", "int reach(int,int,int)",
        "int ofReach(int,int)", "int feeds(int)", "int feed(int)", "int boats()", "int boat(int,int)",
        "int find()", "int leaves(int)", "int about(int)", "int pass(int)", "int through(int)",
        "int costs(int)", "int why(int)", "int queue(int,int)", "int orders(int)", "int best(int,int)",
        "int ruled(int,int,int)", "int run(int,int)", "int keeper(int)", "int day(int,int)",
        "int dry(int,int,int)", "int pond(int,int,int)", "int water()", "int levels(int)",
        "int tally(int,int)", "int pays(long,long)", "long account()", "int image()", "int undo()",
        "int count(int)",
    };

    public static void main(String[] args) {
        constants();
        methods();
        others();
        Check.end("FaceTest");
    }

    private static void constants() {
        Check.due("BAD", LockStaircase.BAD, -1);
        Check.due("NOT", LockStaircase.NOT, -2);
        Check.due("FULL", LockStaircase.FULL, -3);
        Check.due("STATE", LockStaircase.STATE, -5);
        Check.due("OVER", LockStaircase.OVER, -7);
        Check.due("VOID", LockStaircase.VOID, -2000000);
        Check.due("NO", LockStaircase.NO, Long.MIN_VALUE);
    }

    private static void methods() {
        Set<String> wanted = new TreeSet<>(Set.of(METHODS));
        Set<String> found = new TreeSet<>();
        for (Method m : LockStaircase.class.getDeclaredMethods()) {
            if (m.isSynthetic() || Modifier.isPrivate(m.getModifiers())) {
                continue;
            }
            Check.holds(m + " is public and static of none",
                    Modifier.isPublic(m.getModifiers()) && !Modifier.isStatic(m.getModifiers()));
            found.add(signature(m));
        }
        Check.holds("methods are " + found + ", due are " + wanted, found.equals(wanted));
    }

    private static String signature(Method m) {
        StringBuilder text = new StringBuilder(m.getReturnType().getName()).append(' ').append(m.getName()).append('(');
        String comma = "";
        for (Class<?> parameter : m.getParameterTypes()) {
            text.append(comma).append(parameter.getName());
            comma = ",";
        }
        return text.append(')').toString();
    }

    private static void others() {
        int visible = 0;
        for (Field f : LockStaircase.class.getDeclaredFields()) {
            if (!Modifier.isPrivate(f.getModifiers())) {
                visible++;
                int m = f.getModifiers();
                Check.holds(f + " is a public constant", Modifier.isPublic(m) && Modifier.isStatic(m) && Modifier.isFinal(m));
            }
        }
        Check.due("visible fields", visible, 7);
        Constructor<?>[] made = LockStaircase.class.getDeclaredConstructors();
        Check.due("constructors", made.length, 1);
        Check.holds("the constructor is public, of nothing",
                Modifier.isPublic(made[0].getModifiers()) && made[0].getParameterCount() == 0);
        Check.holds("the class is public and final",
                Modifier.isPublic(LockStaircase.class.getModifiers()) && Modifier.isFinal(LockStaircase.class.getModifiers()));
        for (Class<?> inside : LockStaircase.class.getDeclaredClasses()) {
            Check.holds(inside + " is static", Modifier.isStatic(inside.getModifiers()));
        }
    }
}
