import java.math.BigInteger;
import java.util.ArrayList;
import java.util.Comparator;
import java.util.List;
import java.util.TreeMap;
import java.util.regex.Pattern;

/** The document told a second time, plainly and wastefully: worlds are copied whole, texts are texts. */
final class Model {
    static final int BAD = -1, NOT = -2, FULL = -3, STATE = -5, OVER = -7;
    static final int VOID = -2000000, NONE = -2000001, BARRED = -2000002;

    record Boat(String name, int size, int rank, boolean up, int reach) {
        Boat at(int there) {
            return new Boat(name, size, rank, up, there);
        }
    }

    record Why(int lock, int step, int reach, int side) {
    }

    static final class World {
        List<int[]> locks = new ArrayList<>();
        List<int[]> reaches = new ArrayList<>();
        int feed;
        TreeMap<String, Boat> boats = new TreeMap<>();
        TreeMap<Integer, Integer> tally = new TreeMap<>();
        BigInteger account = BigInteger.ZERO;
        Why why;

        World copy() {
            World w = new World();
            locks.forEach(l -> w.locks.add(l.clone()));
            reaches.forEach(r -> w.reaches.add(r.clone()));
            w.feed = feed;
            w.boats.putAll(boats);
            w.tally.putAll(tally);
            w.account = account;
            w.why = why;
            return w;
        }

        void fresh(int n) {
            locks.clear();
            reaches.clear();
            for (int i = 0; i < n; i++) {
                locks.add(new int[] {20, 0, 0, 0});
            }
            for (int i = 0; i <= n; i++) {
                reaches.add(new int[] {500, 0, 9999, 0});
            }
            feed = 0;
            boats.clear();
        }

        int share(int lock) {
            int[] l = locks.get(lock);
            return l[0] * l[1] / (l[1] + 2);
        }

        /** A step as changes of the two reaches; false if it is barred. */
        boolean step(int lock, int number, int toAbove, int toBelow) {
            for (int reach = lock + 1; reach >= lock; reach--) {
                int[] r = reaches.get(reach);
                int then = r[0] + (reach == lock ? toBelow : toAbove);
                if (then < r[1] || then > r[2]) {
                    why = new Why(lock, number, reach, then < r[1] ? 1 : 2);
                    return false;
                }
            }
            reaches.get(lock + 1)[0] += toAbove;
            reaches.get(lock)[0] += toBelow;
            return true;
        }

        /** SPENT, or null if it is barred. */
        Integer passage(int lock, boolean up, int size) {
            World before = copy();
            int[] l = locks.get(lock);
            int water = reaches.get(lock + 1)[0];
            boolean good = true;
            for (int turn = 1; turn <= 2 && good; turn++) {
                // Up: emptied (1), then filled (2). Down: filled (2), then emptied (1).
                boolean fills = up == (turn == 2);
                if (fills && l[3] == 0) {
                    good = step(lock, 2, -(l[0] - l[2]), 0);
                    l[2] = 0;
                    l[3] = 1;
                } else if (!fills && l[3] == 1) {
                    good = step(lock, 1, 0, l[0] - share(lock));
                    l[2] = share(lock);
                    l[3] = 0;
                }
            }
            good = good && step(lock, 3, up ? -size : size, up ? size : -size);
            if (!good) {
                locks = before.locks;
                reaches = before.reaches;
                return null;
            }
            int spent = water - reaches.get(lock + 1)[0];
            tally.merge(spent, 1, Integer::sum);
            return spent;
        }

        /** A named boat truly goes on by one lock. */
        Integer go(String name) {
            Boat b = boats.get(name);
            Integer spent = passage(b.up ? b.reach : b.reach - 1, b.up, b.size);
            if (spent != null) {
                boats.put(name, b.at(b.up ? b.reach + 1 : b.reach - 1));
            }
            return spent;
        }

        boolean hasLockAhead(String name) {
            Boat b = boats.get(name);
            return b.up ? b.reach < locks.size() : b.reach > 0;
        }

        int goThrough(String name) {
            int n = 0;
            while (hasLockAhead(name) && go(name) != null) {
                n++;
            }
            return n;
        }

        List<String> queue(int lock, boolean below) {
            List<Boat> found = new ArrayList<>();
            for (Boat b : boats.values()) {
                if (b.up == below && b.reach == (below ? lock : lock + 1)) {
                    found.add(b);
                }
            }
            found.sort(Comparator.comparingInt((Boat b) -> -b.rank).thenComparing(Boat::name));
            List<String> names = new ArrayList<>();
            found.forEach(b -> names.add(b.name));
            return names;
        }

        /** SPENT of all that went by the rule. */
        List<Integer> runBy(int lock, int rule) {
            List<String> below = queue(lock, true);
            List<String> above = queue(lock, false);
            List<Integer> spents = new ArrayList<>();
            boolean turnOfBelow = true;
            while (!below.isEmpty() || !above.isEmpty()) {
                boolean up;
                if (below.isEmpty() || above.isEmpty()) {
                    up = above.isEmpty();
                } else if (rule == 0) {
                    up = turnOfBelow;
                } else if (rule == 1) {
                    Boat b = boats.get(below.get(0));
                    Boat a = boats.get(above.get(0));
                    up = b.rank != a.rank ? b.rank > a.rank : b.name.compareTo(a.name) < 0;
                } else {
                    up = rule == 2 || locks.get(lock)[3] == 0;
                }
                turnOfBelow = !up;
                Integer spent = go((up ? below : above).remove(0));
                if (spent == null) {
                    break;
                }
                spents.add(spent);
            }
            return spents;
        }

        /** How many passages were done; -1 less them if one was barred. */
        int day(int up, int down) {
            for (int[] r : reaches) {
                r[0] -= Math.min(r[3], r[0] - r[1]);
            }
            int[] summit = reaches.get(locks.size());
            summit[0] += Math.min(feed, summit[2] - summit[0]);
            StringBuilder ways = new StringBuilder();
            for (int i = 0; i < 4; i++) {
                ways.append(i < up ? "u" : "").append(i < down ? "d" : "");
            }
            int done = 0;
            for (char way : ways.toString().toCharArray()) {
                for (int i = 0; i < locks.size(); i++) {
                    if (passage(way == 'u' ? i : locks.size() - 1 - i, way == 'u', 0) == null) {
                        return -1 - done;
                    }
                    done++;
                }
            }
            return done;
        }

        int summit() {
            return reaches.get(locks.size())[0];
        }
    }

    World world = new World();
    World image;
    String tape = "";

    Model() {
        world.fresh(2);
    }

    boolean noLock(int lock) {
        return lock < 0 || lock >= world.locks.size();
    }

    boolean noReach(int reach) {
        return reach < 0 || reach > world.locks.size();
    }

    boolean noBoat(int boat) {
        return boat < 0 || boat >= world.boats.size();
    }

    static boolean out(int v, int least, int most) {
        return v < least || v > most;
    }

    Boat boatOf(int boat) {
        return new ArrayList<>(world.boats.values()).get(boat);
    }

    int numberOf(String name) {
        return new ArrayList<>(world.boats.keySet()).indexOf(name);
    }

    int locks(int n) {
        if (out(n, 1, 6)) {
            return BAD;
        }
        int was = world.locks.size();
        world.fresh(n);
        return was;
    }

    int lock(int lock, int what, int v) {
        if (noLock(lock) || out(what, 0, 1) || (what == 0 ? out(v, 1, 99) : out(v, 0, 3))) {
            return BAD;
        }
        int[] l = world.locks.get(lock);
        if (l[3] == 1 || l[2] > 0) {
            return STATE;
        }
        int was = l[what];
        l[what] = v;
        return was;
    }

    int ofLock(int lock, int what) {
        if (noLock(lock) || out(what, 0, 4)) {
            return BAD;
        }
        return what == 4 ? world.share(lock) : world.locks.get(lock)[what];
    }

    int reach(int reach, int what, int v) {
        if (noReach(reach) || out(what, 0, 3) || out(v, 0, what == 3 ? 99 : 9999)) {
            return BAD;
        }
        int[] then = world.reaches.get(reach).clone();
        int was = then[what];
        then[what] = v;
        if (then[0] < then[1] || then[0] > then[2]) {
            return STATE;
        }
        world.reaches.set(reach, then);
        return was;
    }

    int ofReach(int reach, int what) {
        if (noReach(reach) || out(what, 0, 4)) {
            return BAD;
        }
        return what == 4
                ? (int) world.boats.values().stream().filter(b -> b.reach == reach).count()
                : world.reaches.get(reach)[what];
    }

    int feeds(int v) {
        if (out(v, 0, 999)) {
            return BAD;
        }
        int was = world.feed;
        world.feed = v;
        return was;
    }

    int feed(int letter) {
        if (out(letter, 32, 126)) {
            return BAD;
        }
        if (tape.length() == 60) {
            return FULL;
        }
        tape += (char) letter;
        return tape.length();
    }

    /** Whether some text that is told rightly begins with this one. */
    static boolean goesOn(String text, int highest) {
        String boat = "[a-z]{1,4}[+-][0-9]{2}[0-" + highest + "]";
        String[] ends = {"", "[a-z]{1,4}", "[a-z]{1,4}[+-]", "[a-z]{1,4}[+-][0-9]", "[a-z]{1,4}[+-][0-9]{2}", boat};
        for (String end : ends) {
            if (Pattern.matches("(" + boat + ",)*" + end, text)) {
                return true;
            }
        }
        return false;
    }

    int boats() {
        String text = tape;
        tape = "";
        int highest = world.locks.size();
        for (int i = 0; i < text.length(); i++) {
            if (!goesOn(text.substring(0, i + 1), highest)) {
                return -100 - i;
            }
        }
        if (text.isEmpty() || text.endsWith(",") || !goesOn(text + ",", highest)) {
            return -100 - text.length();
        }
        TreeMap<String, Boat> then = new TreeMap<>(world.boats);
        String[] told = text.split(",");
        for (String one : told) {
            int n = one.length();
            String name = one.substring(0, n - 4);
            then.put(name, new Boat(name, one.charAt(n - 3) - '0', one.charAt(n - 2) - '0',
                    one.charAt(n - 4) == '+', one.charAt(n - 1) - '0'));
        }
        if (then.size() > 12) {
            return FULL;
        }
        world.boats = then;
        return told.length;
    }

    int boat(int boat, int what) {
        if (noBoat(boat) || what < 0 || what > 4 && what < 10) {
            return BAD;
        }
        Boat b = boatOf(boat);
        if (what >= 10) {
            return what - 10 < b.name.length() ? b.name.charAt(what - 10) : NOT;
        }
        return new int[] {b.size, b.rank, b.up ? 1 : 0, b.reach, b.name.length()}[what];
    }

    int find() {
        int n = numberOf(tape);
        tape = "";
        return n < 0 ? NOT : n;
    }

    int leaves(int boat) {
        if (noBoat(boat)) {
            return BAD;
        }
        world.boats.remove(boatOf(boat).name);
        return world.boats.size();
    }

    int about(int boat) {
        if (noBoat(boat)) {
            return BAD;
        }
        Boat b = boatOf(boat);
        world.boats.put(b.name, new Boat(b.name, b.size, b.rank, !b.up, b.reach));
        return b.up ? 0 : 1;
    }

    int pass(int boat) {
        if (noBoat(boat)) {
            return VOID;
        }
        String name = boatOf(boat).name;
        if (!world.hasLockAhead(name)) {
            return NONE;
        }
        Integer spent = world.go(name);
        return spent == null ? BARRED : spent;
    }

    int through(int boat) {
        return noBoat(boat) ? BAD : world.goThrough(boatOf(boat).name);
    }

    int costs(int boat) {
        if (noBoat(boat)) {
            return VOID;
        }
        World thought = world.copy();
        thought.goThrough(boatOf(boat).name);
        return world.summit() - thought.summit();
    }

    int why(int i) {
        if (out(i, 0, 3)) {
            return BAD;
        }
        Why y = world.why;
        return y == null ? NOT : new int[] {y.lock, y.step, y.reach, y.side}[i];
    }

    int queue(int lock, int i) {
        if (noLock(lock) || i < -2) {
            return BAD;
        }
        List<String> below = world.queue(lock, true);
        List<String> above = world.queue(lock, false);
        if (i < 0) {
            return i == -1 ? below.size() : above.size();
        }
        List<String> line = i < 20 ? below : above;
        int at = i < 20 ? i : i - 20;
        return at < line.size() ? numberOf(line.get(at)) : NOT;
    }

    /** All good orders from here on, the first by rows first. */
    private void weave(World w, int lock, List<String> below, List<String> above, List<String> gone, int spent,
            List<List<String>> orders, List<Integer> spents) {
        if (below.isEmpty() && above.isEmpty()) {
            orders.add(new ArrayList<>(gone));
            spents.add(spent);
            return;
        }
        for (int side = 0; side < 2; side++) {
            List<String> line = side == 0 ? below : above;
            if (line.isEmpty()) {
                continue;
            }
            World next = w.copy();
            Integer one = next.go(line.get(0));
            if (one == null) {
                continue;
            }
            List<String> rest = line.subList(1, line.size());
            gone.add(line.get(0));
            weave(next, lock, side == 0 ? rest : below, side == 0 ? above : rest, gone, spent + one, orders, spents);
            gone.remove(gone.size() - 1);
        }
    }

    private static List<String> firstSix(List<String> line) {
        return line.subList(0, Math.min(6, line.size()));
    }

    int orders(int lock) {
        if (noLock(lock)) {
            return BAD;
        }
        List<Integer> spents = new ArrayList<>();
        weave(world, lock, firstSix(world.queue(lock, true)), firstSix(world.queue(lock, false)), new ArrayList<>(), 0,
                new ArrayList<>(), spents);
        return spents.size();
    }

    int best(int lock, int i) {
        if (noLock(lock) || i < -1) {
            return VOID;
        }
        List<List<String>> orders = new ArrayList<>();
        List<Integer> spents = new ArrayList<>();
        weave(world, lock, firstSix(world.queue(lock, true)), firstSix(world.queue(lock, false)), new ArrayList<>(), 0,
                orders, spents);
        int chosen = -1;
        for (int k = 0; k < orders.size(); k++) {
            if (chosen < 0 || spents.get(k) < spents.get(chosen)) {
                chosen = k;
            }
        }
        if (chosen < 0 || i >= orders.get(chosen).size()) {
            return NONE;
        }
        return i == -1 ? spents.get(chosen) : numberOf(orders.get(chosen).get(i));
    }

    private static int sum(List<Integer> spents) {
        return spents.stream().mapToInt(Integer::intValue).sum();
    }

    int ruled(int lock, int rule, int what) {
        if (noLock(lock) || out(rule, 0, 3) || out(what, 0, 2)) {
            return VOID;
        }
        World thought = world.copy();
        List<Integer> spents = thought.runBy(lock, rule);
        return new int[] {sum(spents), spents.size(), thought.locks.get(lock)[3]}[what];
    }

    int run(int lock, int rule) {
        return noLock(lock) || out(rule, 0, 3) ? BAD : world.runBy(lock, rule).size();
    }

    int keeper(int lock) {
        if (noLock(lock)) {
            return BAD;
        }
        int most = 0;
        for (int rule = 0; rule < 4; rule++) {
            most = Math.max(most, ruled(lock, rule, 1));
        }
        int chosen = -1;
        for (int rule = 0; rule < 4; rule++) {
            if (ruled(lock, rule, 1) == most && (chosen < 0 || ruled(lock, rule, 0) < ruled(lock, chosen, 0))) {
                chosen = rule;
            }
        }
        return chosen;
    }

    int day(int up, int down) {
        if (out(up, 0, 4) || out(down, 0, 4)) {
            return BAD;
        }
        int done = world.day(up, down);
        return done < 0 ? -1 - done : done;
    }

    int dry(int up, int down, int what) {
        if (out(up, 0, 4) || out(down, 0, 4) || out(what, 0, 1)) {
            return BAD;
        }
        World thought = world.copy();
        for (int days = 0; days <= 40; days++) {
            if (thought.day(up, down) < 0) {
                return what == 0 ? days : thought.why.lock;
            }
        }
        return NOT;
    }

    int pond(int up, int down, int n) {
        if (out(up, 0, 4) || out(down, 0, 4) || out(n, 1, 20)) {
            return BAD;
        }
        int now = 0;
        int chosen = NOT;
        for (int lock = -1; lock < world.locks.size(); lock++) {
            World thought = world.copy();
            if (lock >= 0) {
                int[] l = thought.locks.get(lock);
                if (l[1] == 3 || l[3] == 1 || l[2] > 0) {
                    continue;
                }
                l[1]++;
            }
            for (int i = 0; i < n; i++) {
                thought.day(up, down);
            }
            if (lock < 0 || thought.summit() > now) {
                now = thought.summit();
                chosen = lock < 0 ? NOT : lock;
            }
        }
        return chosen;
    }

    int water() {
        return world.reaches.stream().mapToInt(r -> r[0]).sum()
                + world.locks.stream().mapToInt(l -> l[2] + l[3] * l[0]).sum();
    }

    int levels(int i) {
        if (i < -1) {
            return BAD;
        }
        int[] unlike = world.reaches.stream().mapToInt(r -> r[0]).distinct().sorted().toArray();
        return i == -1 ? unlike.length : i < unlike.length ? unlike[i] : NOT;
    }

    int tally(int i, int what) {
        if (out(what, 0, 2)) {
            return VOID;
        }
        if (what == 2) {
            return sum(new ArrayList<>(world.tally.headMap(i, true).values()));
        }
        if (i == -1) {
            return world.tally.size();
        }
        if (i < -1 || i >= world.tally.size()) {
            return NONE;
        }
        int spent = new ArrayList<>(world.tally.keySet()).get(i);
        return what == 0 ? spent : world.tally.get(spent);
    }

    int pays(long n, long v) {
        BigInteger product = BigInteger.valueOf(n).multiply(BigInteger.valueOf(v));
        BigInteger then = world.account.add(product);
        if (product.bitLength() > 63 || then.bitLength() > 63) {
            return OVER;
        }
        world.account = then;
        return 1;
    }

    long account() {
        return world.account.longValueExact();
    }

    int image() {
        image = world.copy();
        return world.boats.size();
    }

    int undo() {
        if (image == null) {
            return STATE;
        }
        Why why = world.why;
        world = image.copy();
        world.why = why;
        return world.boats.size();
    }

    int count(int what) {
        switch (what) {
            case 0: return world.locks.size();
            case 1: return world.boats.size();
            case 2: return tape.length();
            case 3: return sum(new ArrayList<>(world.tally.values()));
            case 4: return world.feed;
            case 5: return world.locks.stream().mapToInt(l -> l[3]).sum();
            default: return BAD;
        }
    }
}
