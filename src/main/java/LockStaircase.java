/** A keeper of canal locks; what each call promises stands in ../shared/DOC.md. */
public final class LockStaircase {
    public static final int BAD = -1, NOT = -2, FULL = -3, STATE = -5, OVER = -7, VOID = -2000000;
    public static final long NO = Long.MIN_VALUE;

    private static final int NONE_SUCH = VOID - 1, BARRED = VOID - 2;
    private static final int MOST_LOCKS = 6, MOST_BOATS = 12, MOST_PONDS = 3;
    private static final int MOST_WATER = 9999, MOST_LOCKFUL = 99, MOST_LOSS = 99, MOST_FEED = 999;
    private static final int MOST_TRAFFIC = 4, MOST_DRY_DAYS = 40, MOST_POND_DAYS = 20;
    private static final int RULES = 4;
    private static final int FIRST_FAULT = -100;
    /** From here on queue() tells the boats above, boat() the letters. */
    private static final int ABOVE_FROM = 20, LETTERS_FROM = 10;

    private final Canal canal = new Canal();
    private final Fleet fleet = new Fleet();
    private final Tape tape = new Tape();
    private long accountNow;

    private final Canal imageCanal = new Canal();
    private final Fleet imageFleet = new Fleet();
    private long imageAccount;
    private boolean imageTaken;

    // What is only thought happens in these, so that no call makes new rows.
    private final Canal thought = new Canal();
    private final Fleet thoughtFleet = new Fleet();
    private final Line below = new Line();
    private final Line above = new Line();
    private final RuleRun ruleRun = new RuleRun();
    private final Weaving weaving = new Weaving();

    public LockStaircase() {
        canal.reset(2);
    }

    public int locks(int n) {
        if (n < 1 || n > MOST_LOCKS) {
            return BAD;
        }
        int before = canal.locks;
        canal.reset(n);
        fleet.count = 0;
        return before;
    }

    public int lock(int lock, int what, int v) {
        if (!canal.hasLock(lock) || !isLockSetting(what, v)) {
            return BAD;
        }
        if (!canal.isAtRest(lock)) {
            return STATE;
        }
        int before = canal.lockNumber(lock, what);
        if (what == 0) {
            canal.lockful[lock] = v;
        } else {
            canal.ponds[lock] = v;
        }
        return before;
    }

    private static boolean isLockSetting(int what, int v) {
        switch (what) {
            case 0:
                return v >= 1 && v <= MOST_LOCKFUL;
            case 1:
                return v >= 0 && v <= MOST_PONDS;
            default:
                return false;
        }
    }

    public int ofLock(int lock, int what) {
        if (!canal.hasLock(lock) || what < 0 || what > 4) {
            return BAD;
        }
        return canal.lockNumber(lock, what);
    }

    public int reach(int reach, int what, int v) {
        if (!canal.hasReach(reach) || !isReachSetting(what, v)) {
            return BAD;
        }
        int water = what == 0 ? v : canal.level[reach];
        int least = what == 1 ? v : canal.least[reach];
        int most = what == 2 ? v : canal.most[reach];
        if (water < least || water > most) {
            return STATE;
        }
        int before = canal.reachNumber(reach, what);
        canal.setReach(reach, what, v);
        return before;
    }

    private static boolean isReachSetting(int what, int v) {
        if (what < 0 || what > 3) {
            return false;
        }
        return v >= 0 && v <= (what == 3 ? MOST_LOSS : MOST_WATER);
    }

    public int ofReach(int reach, int what) {
        if (!canal.hasReach(reach) || what < 0 || what > 4) {
            return BAD;
        }
        return what == 4 ? fleet.countIn(reach) : canal.reachNumber(reach, what);
    }

    public int feeds(int v) {
        if (v < 0 || v > MOST_FEED) {
            return BAD;
        }
        int before = canal.inflow;
        canal.inflow = v;
        return before;
    }

    public int feed(int letter) {
        if (letter < 32 || letter > 126) {
            return BAD;
        }
        return tape.append(letter) ? tape.length : FULL;
    }

    public int boats() {
        int answer = readBoats();
        tape.length = 0;
        return answer;
    }

    /** All boats go into the fleet in thought first, so that all of them come, or nothing. */
    private int readBoats() {
        thoughtFleet.copyFrom(fleet);
        tape.at = 0;
        for (int told = 1; told <= Tape.ROOM; told++) {
            if (!tape.readBoat(canal.locks)) {
                return FIRST_FAULT - tape.at;
            }
            thoughtFleet.put(tape);
            if (tape.isAtEnd()) {
                return takeFleetInThought(told);
            }
            if (!tape.readComma()) {
                return FIRST_FAULT - tape.at;
            }
        }
        return FIRST_FAULT - tape.at;
    }

    private int takeFleetInThought(int told) {
        if (thoughtFleet.count > MOST_BOATS) {
            return FULL;
        }
        fleet.copyFrom(thoughtFleet);
        return told;
    }

    public int boat(int boat, int what) {
        if (!fleet.has(boat) || what < 0 || what > 4 && what < LETTERS_FROM) {
            return BAD;
        }
        return what < LETTERS_FROM ? fleet.number(boat, what) : fleet.letter(boat, what - LETTERS_FROM);
    }

    public int find() {
        tape.at = 0;
        int name = tape.readName();
        boolean isName = name != Tape.NO_NAME && tape.isAtEnd();
        tape.length = 0;
        return isName ? fleet.numberOf(name) : NOT;
    }

    public int leaves(int boat) {
        if (!fleet.has(boat)) {
            return BAD;
        }
        fleet.remove(boat);
        return fleet.count;
    }

    public int about(int boat) {
        if (!fleet.has(boat)) {
            return BAD;
        }
        fleet.up[boat] = !fleet.up[boat];
        return fleet.up[boat] ? 1 : 0;
    }

    public int pass(int boat) {
        if (!fleet.has(boat)) {
            return VOID;
        }
        boolean up = fleet.up[boat];
        int lock = Canal.lockFrom(fleet.reach[boat], up);
        if (!canal.hasLock(lock)) {
            return NONE_SUCH;
        }
        int spent = canal.passage(lock, up, fleet.size[boat]);
        if (spent != BARRED) {
            fleet.moveOn(boat, 1);
        }
        return spent;
    }

    public int through(int boat) {
        if (!fleet.has(boat)) {
            return BAD;
        }
        int done = canal.travel(fleet.reach[boat], fleet.up[boat], fleet.size[boat]);
        fleet.moveOn(boat, done);
        return done;
    }

    public int costs(int boat) {
        if (!fleet.has(boat)) {
            return VOID;
        }
        thought.copyFrom(canal);
        thought.travel(fleet.reach[boat], fleet.up[boat], fleet.size[boat]);
        return canal.summitWater() - thought.summitWater();
    }

    public int why(int i) {
        return i < 0 || i > 3 ? BAD : canal.cause.number(i);
    }

    public int queue(int lock, int i) {
        if (!canal.hasLock(lock) || i < -2) {
            return BAD;
        }
        lineUp(lock);
        if (i < 0) {
            return i == -1 ? below.count : above.count;
        }
        return i < ABOVE_FROM ? below.boatAt(i) : above.boatAt(i - ABOVE_FROM);
    }

    private void lineUp(int lock) {
        below.gather(fleet, lock, true);
        above.gather(fleet, lock + 1, false);
    }

    public int orders(int lock) {
        if (!canal.hasLock(lock)) {
            return BAD;
        }
        weaveOrders(lock);
        return weaving.good;
    }

    private void weaveOrders(int lock) {
        lineUp(lock);
        weaving.begin(below, above);
        thought.copyFrom(canal);
        int masks = 1 << weaving.boats;
        for (int mask = 0; mask < masks; mask++) {
            if (weaving.isOrder(mask)) {
                thought.copyLockFrom(canal, lock);
                weaving.weigh(mask, spentByOrder(lock, mask));
            }
        }
    }

    /** SPENT together in thought, or BARRED. */
    private int spentByOrder(int lock, int mask) {
        int together = 0;
        int fromBelow = 0;
        int fromAbove = 0;
        for (int i = 0; i < weaving.boats; i++) {
            boolean up = weaving.isFromBelow(mask, i);
            int boat = up ? below.boatAt(fromBelow++) : above.boatAt(fromAbove++);
            int spent = thought.passage(lock, up, fleet.sizeOf(boat));
            if (spent == BARRED) {
                return BARRED;
            }
            together += spent;
        }
        return together;
    }

    public int best(int lock, int i) {
        if (!canal.hasLock(lock) || i < -1) {
            return VOID;
        }
        weaveOrders(lock);
        if (weaving.good == 0 || i >= weaving.boats) {
            return NONE_SUCH;
        }
        return i == -1 ? weaving.leastSpent : boatOfBest(i);
    }

    private int boatOfBest(int i) {
        int mask = weaving.bestMask;
        int fromBelow = 0;
        for (int earlier = 0; earlier < i; earlier++) {
            if (weaving.isFromBelow(mask, earlier)) {
                fromBelow++;
            }
        }
        return weaving.isFromBelow(mask, i) ? below.boatAt(fromBelow) : above.boatAt(i - fromBelow);
    }

    public int ruled(int lock, int rule, int what) {
        if (!canal.hasLock(lock) || !isRule(rule) || what < 0 || what > 2) {
            return VOID;
        }
        runInThought(lock, rule);
        switch (what) {
            case 0:
                return ruleRun.spent;
            case 1:
                return ruleRun.done();
            default:
                return thought.full[lock] ? 1 : 0;
        }
    }

    private static boolean isRule(int rule) {
        return rule >= 0 && rule < RULES;
    }

    private void runInThought(int lock, int rule) {
        lineUp(lock);
        thought.copyFrom(canal);
        ruleRun.go(thought, fleet, below, above, lock, rule);
    }

    public int run(int lock, int rule) {
        if (!canal.hasLock(lock) || !isRule(rule)) {
            return BAD;
        }
        lineUp(lock);
        ruleRun.go(canal, fleet, below, above, lock, rule);
        moveOnFirst(below, ruleRun.fromBelow);
        moveOnFirst(above, ruleRun.fromAbove);
        return ruleRun.done();
    }

    private void moveOnFirst(Line line, int n) {
        for (int i = 0; i < n; i++) {
            fleet.moveOn(line.boatAt(i), 1);
        }
    }

    public int keeper(int lock) {
        if (!canal.hasLock(lock)) {
            return BAD;
        }
        int chosen = 0;
        int mostDone = -1;
        int leastSpent = 0;
        for (int rule = 0; rule < RULES; rule++) {
            runInThought(lock, rule);
            int done = ruleRun.done();
            if (done > mostDone || done == mostDone && ruleRun.spent < leastSpent) {
                chosen = rule;
                mostDone = done;
                leastSpent = ruleRun.spent;
            }
        }
        return chosen;
    }

    public int day(int up, int down) {
        return isTraffic(up) && isTraffic(down) ? canal.wholeDay(up, down) : BAD;
    }

    private static boolean isTraffic(int n) {
        return n >= 0 && n <= MOST_TRAFFIC;
    }

    public int dry(int up, int down, int what) {
        if (!isTraffic(up) || !isTraffic(down) || what < 0 || what > 1) {
            return BAD;
        }
        thought.copyFrom(canal);
        for (int days = 0; days <= MOST_DRY_DAYS; days++) {
            thought.wholeDay(up, down);
            if (thought.barred) {
                return what == 0 ? days : thought.cause.lock;
            }
        }
        return NOT;
    }

    public int pond(int up, int down, int n) {
        if (!isTraffic(up) || !isTraffic(down) || n < 1 || n > MOST_POND_DAYS) {
            return BAD;
        }
        thought.copyFrom(canal);
        int most = summitInThought(up, down, n);
        int chosen = NOT;
        for (int lock = 0; lock < canal.locks; lock++) {
            if (canal.ponds[lock] < MOST_PONDS && canal.isAtRest(lock)) {
                thought.copyFrom(canal);
                thought.ponds[lock]++;
                int water = summitInThought(up, down, n);
                if (water > most) {
                    most = water;
                    chosen = lock;
                }
            }
        }
        return chosen;
    }

    private int summitInThought(int up, int down, int days) {
        for (int i = 0; i < days; i++) {
            thought.wholeDay(up, down);
        }
        return thought.summitWater();
    }

    public int water() {
        return canal.allWater();
    }

    public int levels(int i) {
        if (i < -1) {
            return BAD;
        }
        int told = 0;
        int level = canal.leastLevelOver(-1);
        while (level >= 0 && told <= MOST_LOCKS) {
            if (told == i) {
                return level;
            }
            told++;
            level = canal.leastLevelOver(level);
        }
        return i == -1 ? told : NOT;
    }

    public int tally(int i, int what) {
        if (what < 0 || what > 2) {
            return VOID;
        }
        if (what == 2) {
            return canal.tally.upTo(i);
        }
        return i == -1 ? canal.tally.unlike() : canal.tally.row(i, what == 1);
    }

    public int pays(long n, long v) {
        long product = n * v;
        boolean over = n == -1 ? v == Long.MIN_VALUE : n != 0 && product / n != v;
        long sum = accountNow + product;
        // A sum that wraps has the sign that neither of its two parts has.
        if (over || ((accountNow ^ sum) & (product ^ sum)) < 0) {
            return OVER;
        }
        accountNow = sum;
        return 1;
    }

    public long account() {
        return accountNow;
    }

    public int image() {
        imageCanal.copyFrom(canal);
        imageFleet.copyFrom(fleet);
        imageAccount = accountNow;
        imageTaken = true;
        return fleet.count;
    }

    public int undo() {
        if (!imageTaken) {
            return STATE;
        }
        canal.copyFrom(imageCanal);
        fleet.copyFrom(imageFleet);
        accountNow = imageAccount;
        return fleet.count;
    }

    public int count(int what) {
        switch (what) {
            case 0:
                return canal.locks;
            case 1:
                return fleet.count;
            case 2:
                return tape.length;
            case 3:
                return canal.tally.upTo(Tally.MOST);
            case 4:
                return canal.inflow;
            case 5:
                return canal.fullLocks();
            default:
                return BAD;
        }
    }

    /** Locks and reaches with their waters, the tally of what their passages spent, and why one was barred. */
    private static final class Canal {
        /** A step bears its own number whichever way the boat goes, though down the lock is filled ahead of emptied. */
        static final int EMPTYING = 1, FILLING = 2, SWAPPING = 3;

        /** 1 to MOST_LOCKS, once it was reset or copied: the rows have room for all. */
        int locks;
        int inflow;
        final int[] lockful = new int[MOST_LOCKS];
        final int[] ponds = new int[MOST_LOCKS];
        final int[] held = new int[MOST_LOCKS];
        final boolean[] full = new boolean[MOST_LOCKS];
        final int[] level = new int[MOST_LOCKS + 1];
        final int[] least = new int[MOST_LOCKS + 1];
        final int[] most = new int[MOST_LOCKS + 1];
        final int[] loss = new int[MOST_LOCKS + 1];
        final Tally tally = new Tally();
        final Cause cause = new Cause();
        /** Whether the latest wholeDay() was ended by a barred passage. */
        boolean barred;

        /** The tally and the cause stay. */
        void reset(int n) {
            locks = n;
            inflow = 0;
            for (int i = 0; i < MOST_LOCKS; i++) {
                lockful[i] = 20;
                ponds[i] = 0;
                held[i] = 0;
                full[i] = false;
            }
            for (int i = 0; i <= MOST_LOCKS; i++) {
                level[i] = 500;
                least[i] = 0;
                most[i] = MOST_WATER;
                loss[i] = 0;
            }
        }

        /** The cause stays: it is in no image, and what is thought tells none. */
        void copyFrom(Canal other) {
            locks = other.locks;
            inflow = other.inflow;
            System.arraycopy(other.lockful, 0, lockful, 0, MOST_LOCKS);
            System.arraycopy(other.ponds, 0, ponds, 0, MOST_LOCKS);
            System.arraycopy(other.held, 0, held, 0, MOST_LOCKS);
            System.arraycopy(other.level, 0, level, 0, MOST_LOCKS + 1);
            System.arraycopy(other.least, 0, least, 0, MOST_LOCKS + 1);
            System.arraycopy(other.most, 0, most, 0, MOST_LOCKS + 1);
            System.arraycopy(other.loss, 0, loss, 0, MOST_LOCKS + 1);
            for (int lock = 0; lock < MOST_LOCKS; lock++) {
                full[lock] = other.full[lock];
            }
            tally.copyFrom(other.tally);
        }

        /** Only what passages through this one lock change. */
        void copyLockFrom(Canal other, int lock) {
            if (!hasLock(lock)) {
                return;
            }
            held[lock] = other.held[lock];
            full[lock] = other.full[lock];
            level[lock] = other.level[lock];
            level[lock + 1] = other.level[lock + 1];
        }

        boolean hasLock(int lock) {
            return lock >= 0 && lock < locks;
        }

        boolean hasReach(int reach) {
            return reach >= 0 && reach <= locks;
        }

        boolean isAtRest(int lock) {
            return !full[lock] && held[lock] == 0;
        }

        int share(int lock) {
            return lockful[lock] * ponds[lock] / (ponds[lock] + 2);
        }

        int lockNumber(int lock, int what) {
            switch (what) {
                case 0:
                    return lockful[lock];
                case 1:
                    return ponds[lock];
                case 2:
                    return held[lock];
                case 3:
                    return full[lock] ? 1 : 0;
                default:
                    return share(lock);
            }
        }

        int reachNumber(int reach, int what) {
            switch (what) {
                case 0:
                    return level[reach];
                case 1:
                    return least[reach];
                case 2:
                    return most[reach];
                default:
                    return loss[reach];
            }
        }

        void setReach(int reach, int what, int v) {
            switch (what) {
                case 0:
                    level[reach] = v;
                    break;
                case 1:
                    least[reach] = v;
                    break;
                case 2:
                    most[reach] = v;
                    break;
                default:
                    loss[reach] = v;
                    break;
            }
        }

        static int lockFrom(int reach, boolean up) {
            return up ? reach : reach - 1;
        }

        /** SPENT by it; BARRED: then nothing of it is done, and the cause is told. */
        int passage(int lock, boolean up, int size) {
            if (!hasLock(lock)) {
                return BARRED;
            }
            int levelBelow = level[lock];
            int levelAbove = level[lock + 1];
            int heldBefore = held[lock];
            boolean fullBefore = full[lock];
            boolean done = up
                    ? (!full[lock] || empties(lock)) && fills(lock) && swaps(lock, size)
                    : (full[lock] || fills(lock)) && empties(lock) && swaps(lock, -size);
            if (!done) {
                level[lock] = levelBelow;
                level[lock + 1] = levelAbove;
                held[lock] = heldBefore;
                full[lock] = fullBefore;
                return BARRED;
            }
            int spent = levelAbove - level[lock + 1];
            tally.add(spent);
            return spent;
        }

        private boolean fills(int lock) {
            int drawn = lockful[lock] - held[lock];
            if (isBarred(lock, FILLING, lock + 1, -drawn)) {
                return false;
            }
            level[lock + 1] -= drawn;
            held[lock] = 0;
            full[lock] = true;
            return true;
        }

        private boolean empties(int lock) {
            int saved = share(lock);
            int let = lockful[lock] - saved;
            if (isBarred(lock, EMPTYING, lock, let)) {
                return false;
            }
            level[lock] += let;
            held[lock] = saved;
            full[lock] = false;
            return true;
        }

        private boolean swaps(int lock, int goesDown) {
            if (isBarred(lock, SWAPPING, lock + 1, -goesDown) || isBarred(lock, SWAPPING, lock, goesDown)) {
                return false;
            }
            level[lock + 1] -= goesDown;
            level[lock] += goesDown;
            return true;
        }

        private boolean isBarred(int lock, int step, int reach, int change) {
            int then = level[reach] + change;
            if (then >= least[reach] && then <= most[reach]) {
                return false;
            }
            cause.known = true;
            cause.lock = lock;
            cause.step = step;
            cause.reach = reach;
            cause.side = then < least[reach] ? 1 : 2;
            return true;
        }

        /** Through all locks from a reach on, till a passage is barred: how many it went through. */
        int travel(int from, boolean up, int size) {
            int done = 0;
            int lock = lockFrom(from, up);
            while (hasLock(lock) && done < MOST_LOCKS) {
                if (passage(lock, up, size) == BARRED) {
                    barred = true;
                    return done;
                }
                done++;
                lock += up ? 1 : -1;
            }
            return done;
        }

        /** How many passages were done. */
        int wholeDay(int ups, int downs) {
            loseAndGain();
            barred = false;
            int done = 0;
            int upsGone = 0;
            int downsGone = 0;
            while (upsGone + downsGone < ups + downs && !barred) {
                boolean up = upsGone < ups && (upsGone <= downsGone || downsGone >= downs);
                done += travel(up ? 0 : locks, up, 0);
                if (up) {
                    upsGone++;
                } else {
                    downsGone++;
                }
            }
            return done;
        }

        private void loseAndGain() {
            for (int reach = locks; reach >= 0; reach--) {
                level[reach] = Math.max(least[reach], level[reach] - loss[reach]);
            }
            level[locks] = Math.min(most[locks], level[locks] + inflow);
        }

        int summitWater() {
            return level[locks];
        }

        int allWater() {
            int together = 0;
            for (int reach = 0; reach <= locks; reach++) {
                together += level[reach];
            }
            for (int lock = 0; lock < locks; lock++) {
                together += held[lock] + (full[lock] ? lockful[lock] : 0);
            }
            return together;
        }

        /** -1: none is over it. */
        int leastLevelOver(int bound) {
            int found = -1;
            for (int reach = 0; reach <= locks; reach++) {
                if (level[reach] > bound && (found < 0 || level[reach] < found)) {
                    found = level[reach];
                }
            }
            return found;
        }

        int fullLocks() {
            int n = 0;
            for (int lock = 0; lock < locks; lock++) {
                if (full[lock]) {
                    n++;
                }
            }
            return n;
        }
    }

    /** Why the latest barred passage of a canal was barred. */
    private static final class Cause {
        boolean known;
        int lock;
        int step;
        int reach;
        int side;

        int number(int i) {
            if (!known) {
                return NOT;
            }
            switch (i) {
                case 0:
                    return lock;
                case 1:
                    return step;
                case 2:
                    return reach;
                default:
                    return side;
            }
        }
    }

    /** How often each SPENT was. */
    private static final class Tally {
        /** A passage gives back a size at the most, and spends a lockful and a size at the most. */
        static final int LEAST = -9, MOST = MOST_LOCKFUL + 9;

        final int[] often = new int[MOST - LEAST + 1];

        void copyFrom(Tally other) {
            System.arraycopy(other.often, 0, often, 0, MOST - LEAST + 1);
        }

        void add(int spent) {
            if (spent >= LEAST && spent <= MOST) {
                often[spent - LEAST]++;
            }
        }

        int unlike() {
            int n = 0;
            for (int k = 0; k < often.length; k++) {
                if (often[k] > 0) {
                    n++;
                }
            }
            return n;
        }

        int upTo(int spent) {
            int n = 0;
            for (int k = 0; k < often.length && k + LEAST <= spent; k++) {
                n += often[k];
            }
            return n;
        }

        /** Of the i-th of the unlike ones, the least first: how often it was, or what it is. */
        int row(int i, boolean howOften) {
            int earlier = 0;
            for (int k = 0; k < often.length; k++) {
                if (often[k] > 0) {
                    if (earlier == i) {
                        return howOften ? often[k] : k + LEAST;
                    }
                    earlier++;
                }
            }
            return NONE_SUCH;
        }
    }

    /** The boats by their names, the least first. */
    private static final class Fleet {
        /** A tape tells 10 more than there may be at the most. */
        static final int ROOM = MOST_BOATS + 10;

        final int[] name = new int[ROOM];
        final int[] size = new int[ROOM];
        final int[] rank = new int[ROOM];
        final boolean[] up = new boolean[ROOM];
        final int[] reach = new int[ROOM];
        int count;

        void copyFrom(Fleet other) {
            count = other.count;
            System.arraycopy(other.name, 0, name, 0, ROOM);
            System.arraycopy(other.size, 0, size, 0, ROOM);
            System.arraycopy(other.rank, 0, rank, 0, ROOM);
            System.arraycopy(other.reach, 0, reach, 0, ROOM);
            for (int boat = 0; boat < ROOM; boat++) {
                up[boat] = other.up[boat];
            }
        }

        boolean has(int boat) {
            return boat >= 0 && boat < count;
        }

        int numberOf(int wanted) {
            for (int b = 0; b < count; b++) {
                if (name[b] == wanted) {
                    return b;
                }
            }
            return NOT;
        }

        /** The boat that the tape read latest. */
        void put(Tape told) {
            int place = placeFor(told.name);
            if (place < 0) {
                return;
            }
            name[place] = told.name;
            size[place] = told.size;
            rank[place] = told.rank;
            up[place] = told.up;
            reach[place] = told.reach;
        }

        /** Where this name stands, a row being opened for it if it is new; -1: there is no room. */
        private int placeFor(int wanted) {
            int place = 0;
            while (place < count && name[place] < wanted) {
                place++;
            }
            if (place < count && name[place] == wanted) {
                return place;
            }
            if (count >= ROOM) {
                return -1;
            }
            for (int b = count; b > place; b--) {
                copyRow(b - 1, b);
            }
            count++;
            return place;
        }

        void remove(int boat) {
            if (!has(boat)) {
                return;
            }
            for (int b = boat; b + 1 < count; b++) {
                copyRow(b + 1, b);
            }
            count--;
        }

        private void copyRow(int from, int to) {
            name[to] = name[from];
            size[to] = size[from];
            rank[to] = rank[from];
            up[to] = up[from];
            reach[to] = reach[from];
        }

        void moveOn(int boat, int reaches) {
            if (has(boat)) {
                reach[boat] += up[boat] ? reaches : -reaches;
            }
        }

        int sizeOf(int boat) {
            return has(boat) ? size[boat] : 0;
        }

        int rankOf(int boat) {
            return has(boat) ? rank[boat] : 0;
        }

        int countIn(int wanted) {
            int n = 0;
            for (int b = 0; b < count; b++) {
                if (reach[b] == wanted) {
                    n++;
                }
            }
            return n;
        }

        int number(int boat, int what) {
            switch (what) {
                case 0:
                    return size[boat];
                case 1:
                    return rank[boat];
                case 2:
                    return up[boat] ? 1 : 0;
                case 3:
                    return reach[boat];
                default:
                    return letterCount(boat);
            }
        }

        private int letterCount(int boat) {
            int n = 0;
            while (n < Tape.MOST_LETTERS && letter(boat, n) != NOT) {
                n++;
            }
            return n;
        }

        int letter(int boat, int i) {
            if (!has(boat) || i < 0 || i >= Tape.MOST_LETTERS) {
                return NOT;
            }
            int rest = name[boat];
            for (int k = Tape.MOST_LETTERS - 1; k > i; k--) {
                rest /= Tape.LETTER_BASE;
            }
            int figure = rest % Tape.LETTER_BASE;
            return figure == 0 ? NOT : 'a' - 1 + figure;
        }
    }

    /** The tape, and what was read from it latest. */
    private static final class Tape {
        static final int ROOM = 60, MOST_LETTERS = 4, NO_NAME = 0;
        /** A name is a number of four figures, 0 where it has no letter: the least number is the least name. */
        static final int LETTER_BASE = 27;

        final int[] bytes = new int[ROOM];
        int length;
        int at;
        int name;
        boolean up;
        int size;
        int rank;
        int reach;

        boolean append(int letter) {
            if (length >= ROOM) {
                return false;
            }
            bytes[length] = letter;
            length++;
            return true;
        }

        private int current() {
            return at < length ? bytes[at] : -1;
        }

        boolean isAtEnd() {
            return at >= length;
        }

        /** Where it answers false, at is the fault. */
        boolean readBoat(int highestReach) {
            name = readName();
            if (name == NO_NAME || !readWay()) {
                return false;
            }
            size = readFigure(9);
            rank = size < 0 ? -1 : readFigure(9);
            reach = rank < 0 ? -1 : readFigure(highestReach);
            return reach >= 0;
        }

        int readName() {
            int number = 0;
            for (int i = 0; i < MOST_LETTERS; i++) {
                int letter = current();
                boolean isLetter = letter >= 'a' && letter <= 'z';
                number = number * LETTER_BASE + (isLetter ? letter - 'a' + 1 : 0);
                if (isLetter) {
                    at++;
                }
            }
            return number;
        }

        private boolean readWay() {
            int sign = current();
            if (sign != '+' && sign != '-') {
                return false;
            }
            up = sign == '+';
            at++;
            return true;
        }

        /** -1: there is none up to this one. */
        private int readFigure(int most) {
            int figure = current() - '0';
            if (figure < 0 || figure > most) {
                return -1;
            }
            at++;
            return figure;
        }

        boolean readComma() {
            if (current() != ',') {
                return false;
            }
            at++;
            return true;
        }
    }

    /** One of the two queues of a lock. */
    private static final class Line {
        final int[] boats = new int[Fleet.ROOM];
        int count;

        int boatAt(int i) {
            return i >= 0 && i < count ? boats[i] : NOT;
        }

        void gather(Fleet fleet, int reach, boolean up) {
            count = 0;
            for (int boat = 0; boat < fleet.count; boat++) {
                if (fleet.reach[boat] == reach && fleet.up[boat] == up) {
                    join(fleet, boat);
                }
            }
        }

        /** Boats come by their names, so one goes ahead of those of a lower rank alone. */
        private void join(Fleet fleet, int boat) {
            if (count >= Fleet.ROOM) {
                return;
            }
            int place = count;
            while (place > 0 && fleet.rankOf(boats[place - 1]) < fleet.rankOf(boat)) {
                boats[place] = boats[place - 1];
                place--;
            }
            boats[place] = boat;
            count++;
        }
    }

    /** A run of a lock by a rule. */
    private static final class RuleRun {
        int fromBelow;
        int fromAbove;
        int spent;

        int done() {
            return fromBelow + fromAbove;
        }

        void go(Canal where, Fleet fleet, Line below, Line above, int lock, int rule) {
            fromBelow = 0;
            fromAbove = 0;
            spent = 0;
            int all = below.count + above.count;
            for (int i = 0; i < all && where.hasLock(lock); i++) {
                boolean up = isFromBelowNext(fleet, below, above, where.full[lock], rule);
                int boat = up ? below.boatAt(fromBelow) : above.boatAt(fromAbove);
                int one = where.passage(lock, up, fleet.sizeOf(boat));
                if (one == BARRED) {
                    return;
                }
                spent += one;
                if (up) {
                    fromBelow++;
                } else {
                    fromAbove++;
                }
            }
        }

        private boolean isFromBelowNext(Fleet fleet, Line below, Line above, boolean full, int rule) {
            if (fromBelow >= below.count || fromAbove >= above.count) {
                return fromBelow < below.count;
            }
            switch (rule) {
                case 0:
                    return fromBelow <= fromAbove;
                case 1:
                    return isAhead(fleet, below.boatAt(fromBelow), above.boatAt(fromAbove));
                case 2:
                    return true;
                default:
                    return !full;
            }
        }

        private static boolean isAhead(Fleet fleet, int boat, int other) {
            int rank = fleet.rankOf(boat);
            int otherRank = fleet.rankOf(other);
            return rank > otherRank || rank == otherRank && boat < other;
        }
    }

    /**
     * The orders of a lock. An order is a mask: its highest bit is its first boat, 0 for one from below,
     * so that a lesser mask is ahead by rows.
     */
    private static final class Weaving {
        static final int MOST_OF_EACH = 6;

        int boats;
        int fromAbove;
        int good;
        int leastSpent;
        int bestMask;

        void begin(Line below, Line above) {
            fromAbove = Math.min(above.count, MOST_OF_EACH);
            boats = fromAbove + Math.min(below.count, MOST_OF_EACH);
            good = 0;
            leastSpent = 0;
            bestMask = 0;
        }

        boolean isOrder(int mask) {
            return Integer.bitCount(mask) == fromAbove;
        }

        boolean isFromBelow(int mask, int i) {
            return (mask >> (boats - 1 - i) & 1) == 0;
        }

        void weigh(int mask, int spent) {
            if (spent == BARRED) {
                return;
            }
            if (good == 0 || spent < leastSpent) {
                leastSpent = spent;
                bestMask = mask;
            }
            good++;
        }
    }
}
