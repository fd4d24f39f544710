/** Long runs of mixed calls, the same ones each time, on the class and on a plain model of the document. */
public final class ModelTest {
    private static final int RUNS = 700;
    /** A run ends behind the act that comes to so many: none is past 512 then, where answers are free. */
    private static final int CALLS = 450;
    private static final int[] ODD = {
        Integer.MIN_VALUE, Integer.MIN_VALUE + 1, -101, -10, -3, -2, -1, 0, 1, 2, 3, 4, 5, 6, 7, 9, 10, 12, 13, 14, 19, 20,
        21, 31, 32, 126, 127, 99, 100, 999, 1000, 9999, 10000, Integer.MAX_VALUE - 1, Integer.MAX_VALUE,
    };
    private static final long[] LONGS = {
        Long.MIN_VALUE, Long.MIN_VALUE + 1, Long.MIN_VALUE / 2, -3037000500L, -7, -1, 0, 1, 2, 12, 3037000499L, 1L << 31,
        1L << 32, Long.MAX_VALUE / 2, Long.MAX_VALUE - 1, Long.MAX_VALUE,
    };
    private static final String[] NAMES = {"a", "ab", "abc", "abcd", "b", "ba", "c", "zz", "zzzz", "m", "mn", "k", "x", "az"};

    private long seed;
    private LockStaircase x;
    private Model m;
    private String run;

    public static void main(String[] args) {
        for (int i = 0; i < RUNS; i++) {
            new ModelTest().go(i);
        }
        Check.end("ModelTest");
    }

    private int next(int bound) {
        seed = seed * 6364136223846793005L + 1442695040888963407L;
        return (int) ((seed >>> 33) % bound);
    }

    /** Mostly a number in its range, now and then an odd one. */
    private int number(int least, int most) {
        return next(12) == 0 ? ODD[next(ODD.length)] : least + next(most - least + 1);
    }

    private void go(int number) {
        seed = number * 7919L + 17;
        next(2);
        x = new LockStaircase();
        m = new Model();
        int calls = 0;
        if (next(2) == 0) {
            scene();
            calls = 150;
        }
        while (calls < CALLS) {
            run = "run " + number + " call " + calls + ": ";
            calls += call(next(40));
        }
    }

    private void due(String call, long got, long want) {
        Check.due(run + call, got, want);
    }

    private int highest() {
        return m.world.locks.size();
    }

    /** A scarce world with many boats, so that much is barred. */
    private void scene() {
        run = "scene: ";
        int n = 1 + next(6);
        due("locks", x.locks(n), m.locks(n));
        for (int lock = 0; lock < n; lock++) {
            int lockful = 1 + next(next(2) == 0 ? 10 : 99);
            int ponds = next(4);
            due("lock", x.lock(lock, 0, lockful), m.lock(lock, 0, lockful));
            due("lock", x.lock(lock, 1, ponds), m.lock(lock, 1, ponds));
        }
        for (int reach = 0; reach <= n; reach++) {
            setReach(reach, 0, 20 + next(200));
            setReach(reach, 1, next(20));
            setReach(reach, 2, m.ofReach(reach, 0) + next(150));
            setReach(reach, 3, next(6));
        }
        feeds(next(80));
        for (int i = 0; i < 12; i++) {
            type(NAMES[i] + (next(2) == 0 ? "+" : "-") + next(10) + next(next(2) == 0 ? 3 : 10) + next(Math.min(n, 2) + 1));
            due("boats", x.boats(), m.boats());
        }
    }

    private void setReach(int reach, int what, int v) {
        due("reach", x.reach(reach, what, v), m.reach(reach, what, v));
    }

    private void feeds(int v) {
        due("feeds " + v, x.feeds(v), m.feeds(v));
    }

    private int type(String text) {
        for (char c : text.toCharArray()) {
            due("feed", x.feed(c), m.feed(c));
        }
        return text.length();
    }

    private String boatText() {
        String text = NAMES[next(NAMES.length)] + "+-".charAt(next(2)) + next(10) + next(4) + next(highest() + 1);
        if (next(8) == 0) {
            int at = next(text.length());
            text = text.substring(0, at) + "a9+-, {`/:Z0"
                    .charAt(next(12)) + text.substring(at + next(2));
        }
        return text;
    }

    private int call(int kind) {
        int lock = number(0, highest() - 1);
        int boat = number(0, Math.max(0, m.world.boats.size() - 1));
        switch (kind) {
            case 0: return next(8) == 0 ? locks(number(1, 6)) : image();
            case 1: return lockSetting(lock);
            case 2: return reachSetting();
            case 3: feeds(number(0, 60)); return 1;
            case 4: case 5: case 6: return tell();
            case 7: return find();
            case 8: return next(3) == 0 ? leaves(boat) : about(boat);
            case 9: return about(boat);
            case 10: case 11: case 12: case 13: return pass(boat);
            case 14: case 15: return through(boat);
            case 16: return oddByte();
            case 17: return run(lock, number(0, 3));
            case 18: return day(number(0, 4), number(0, 4));
            case 19: return pays();
            case 20: return next(3) == 0 ? undo() : image();
            default: return ask(kind - 21, lock, boat);
        }
    }

    private int ask(int kind, int lock, int boat) {
        int up = number(0, 4);
        int down = number(0, 4);
        int what;
        switch (kind) {
            case 0: what = number(0, 4); due("ofLock " + lock + " " + what, x.ofLock(lock, what), m.ofLock(lock, what)); return 1;
            case 1: return askReach();
            case 2: return askBoat(boat, next(2) == 0 ? number(0, 4) : number(10, 14));
            case 3: case 4: due("costs " + boat, x.costs(boat), m.costs(boat)); return 1;
            case 5: what = number(0, 3); due("why " + what, x.why(what), m.why(what)); return 1;
            case 6: what = next(2) == 0 ? number(-2, 4) : number(18, 24);
                due("queue " + lock + " " + what, x.queue(lock, what), m.queue(lock, what)); return 1;
            case 7: return askOrders(lock);
            case 8: case 9: return askRuled(lock);
            case 10: due("keeper " + lock, x.keeper(lock), m.keeper(lock)); return 1;
            case 11: case 12: return askDry(up, down);
            case 13: case 14: return askPond(up, down);
            case 15: due("water", x.water(), m.water()); return 1;
            case 16: what = number(-1, 6); due("levels " + what, x.levels(what), m.levels(what)); return 1;
            case 17: return askTally();
            default: what = number(0, 5); due("count " + what, x.count(what), m.count(what)); return 1;
        }
    }

    private int locks(int n) {
        due("locks " + n, x.locks(n), m.locks(n));
        return 1;
    }

    private int lockSetting(int lock) {
        int what = number(0, 1);
        int v = what == 0 ? number(1, 40) : number(0, 3);
        due("lock " + lock + " " + what + " " + v, x.lock(lock, what, v), m.lock(lock, what, v));
        return 1;
    }

    private int reachSetting() {
        int reach = number(0, highest());
        int what = number(0, 3);
        int v = what == 3 ? number(0, 20) : next(6) == 0 ? number(0, 9999) : number(0, 300);
        due("reach " + reach + " " + what + " " + v, x.reach(reach, what, v), m.reach(reach, what, v));
        return 1;
    }

    private int tell() {
        StringBuilder text = new StringBuilder(boatText());
        while (next(3) == 0) {
            text.append(',').append(boatText());
        }
        int n = type(text.toString());
        due("boats of " + text, x.boats(), m.boats());
        return n + 1;
    }

    private int find() {
        String name = next(6) == 0 ? boatText() : NAMES[next(NAMES.length)];
        int n = type(name);
        due("find " + name, x.find(), m.find());
        return n + 1;
    }

    private int oddByte() {
        int letter = next(4) == 0 ? number(32, 126) : 0;
        due("feed " + letter, x.feed(letter), m.feed(letter));
        return 1;
    }

    private int leaves(int boat) {
        due("leaves " + boat, x.leaves(boat), m.leaves(boat));
        return 1;
    }

    private int about(int boat) {
        due("about " + boat, x.about(boat), m.about(boat));
        return 1;
    }

    private int pass(int boat) {
        due("pass " + boat, x.pass(boat), m.pass(boat));
        return 1;
    }

    private int through(int boat) {
        due("through " + boat, x.through(boat), m.through(boat));
        return 1;
    }

    private int run(int lock, int rule) {
        due("run " + lock + " " + rule, x.run(lock, rule), m.run(lock, rule));
        return 1;
    }

    private int day(int up, int down) {
        due("day " + up + " " + down, x.day(up, down), m.day(up, down));
        return 1;
    }

    private int pays() {
        long n = LONGS[next(LONGS.length)];
        long v = LONGS[next(LONGS.length)];
        due("pays " + n + " " + v, x.pays(n, v), m.pays(n, v));
        due("account", x.account(), m.account());
        return 2;
    }

    private int image() {
        due("image", x.image(), m.image());
        return 1;
    }

    private int undo() {
        due("undo", x.undo(), m.undo());
        return 1;
    }

    private int askReach() {
        int reach = number(0, highest());
        int what = number(0, 4);
        due("ofReach " + reach + " " + what, x.ofReach(reach, what), m.ofReach(reach, what));
        return 1;
    }

    private int askBoat(int boat, int what) {
        due("boat " + boat + " " + what, x.boat(boat, what), m.boat(boat, what));
        return 1;
    }

    private int askOrders(int lock) {
        due("orders " + lock, x.orders(lock), m.orders(lock));
        int i = number(-1, 12);
        due("best " + lock + " -1", x.best(lock, -1), m.best(lock, -1));
        due("best " + lock + " " + i, x.best(lock, i), m.best(lock, i));
        return 3;
    }

    private int askRuled(int lock) {
        int rule = number(0, 3);
        int what = number(0, 2);
        due("ruled " + lock + " " + rule + " " + what, x.ruled(lock, rule, what), m.ruled(lock, rule, what));
        return 1;
    }

    private int askDry(int up, int down) {
        int what = number(0, 1);
        due("dry " + up + " " + down + " " + what, x.dry(up, down, what), m.dry(up, down, what));
        return 1;
    }

    private int askPond(int up, int down) {
        int n = number(1, 20);
        due("pond " + up + " " + down + " " + n, x.pond(up, down, n), m.pond(up, down, n));
        return 1;
    }

    private int askTally() {
        int what = number(0, 2);
        int i = next(3) == 0 ? number(-12, 110) : number(-1, 8);
        due("tally " + i + " " + what, x.tally(i, what), m.tally(i, what));
        return 1;
    }
}
