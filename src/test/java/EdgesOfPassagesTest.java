/** The boundary cases of promises 14 to 17: passages, what they spend, what bars them, and what is told of that. */
public final class EdgesOfPassagesTest extends Edges {
    public static void main(String[] args) {
        runAll(EdgesOfPassagesTest.class, 14, 17);
    }

    /** "VOID: BAD": no such BOAT. */
    static void p14NoSuchBoat() {
        LockStaircase x = new LockStaircase();
        due(x.pass(0), VOID);
        tell(x, "a+000");
        due(x.pass(1), VOID);
        due(x.pass(-1), VOID);
        due(x.pass(LEAST_INT), VOID);
        due(x.pass(MOST_INT), VOID);
        due(x.count(3), 0);
    }

    /** "-2000001: there is no LOCK that WAY": up from THE SUMMIT. */
    static void p14NoLockUp() {
        for (int n = 1; n <= 6; n++) {
            LockStaircase x = canal(n, "a+00" + n);
            due(x.pass(0), NONE);
            due(x.boat(0, 3), n);
            due(x.count(3), 0);
            due(x.about(0), 0);
            due(x.pass(0), 20);
        }
    }

    /** "-2000001: there is no LOCK that WAY": down from REACH 0. */
    static void p14NoLockDown() {
        LockStaircase x = canal(2, "a-900");
        due(x.pass(0), NONE);
        due(x.boat(0, 3), 0);
        due(x.count(3), 0);
        due(x.about(0), 1);
        due(x.pass(0), 29);
    }

    /** "REACH k is below LOCK k, REACH k + 1 above it" */
    static void p14LockOfEachReach() {
        for (int reach = 0; reach < 6; reach++) {
            LockStaircase x = canal(6, "a+00" + reach);
            due(x.pass(0), 20);
            due(x.ofLock(reach, 3), 1);
            due(x.count(5), 1);
            due(x.ofReach(reach + 1, 0), 480);
            due(x.ofReach(reach, 0), 500);
            x.about(0);
            due(x.pass(0), 0);
            due(x.count(5), 0);
            due(x.ofReach(reach + 1, 0), 480);
            due(x.ofReach(reach, 0), 520);
            due(x.boat(0, 3), reach);
        }
    }

    /** "up: EMPTIED (1), if it is FULL": not if it is EMPTY. */
    static void p14UpThroughAnEmptyLock() {
        LockStaircase x = canal(1, "a+000");
        due(x.pass(0), 20);
        due(x.ofReach(0, 0), 500);
        due(x.ofReach(1, 0), 480);
        due(x.ofLock(0, 3), 1);
    }

    /** "up: EMPTIED (1), if it is FULL; then FILLED (2)" */
    static void p14UpThroughAFullLock() {
        LockStaircase x = canal(1, "a+000");
        x.lock(0, 1, 1);
        makeFull(x, 0);
        due(x.pass(0), 14);
        due(x.ofReach(0, 0), 514);
        due(x.ofReach(1, 0), 466);
        due(x.ofLock(0, 3), 1);
        due(x.ofLock(0, 2), 0);
    }

    /** "Down: FILLED (2), if it is EMPTY": not if it is FULL. */
    static void p14DownThroughAFullLock() {
        LockStaircase x = canal(1, "a-001");
        makeFull(x, 0);
        due(x.pass(0), 0);
        due(x.ofReach(1, 0), 480);
        due(x.ofReach(0, 0), 520);
        due(x.ofLock(0, 3), 0);
    }

    /** "Down: FILLED (2), if it is EMPTY; then EMPTIED (1)" */
    static void p14DownThroughAnEmptyLock() {
        LockStaircase x = canal(1, "a-001");
        x.lock(0, 1, 1);
        due(x.pass(0), 20);
        due(x.ofReach(1, 0), 480);
        due(x.ofReach(0, 0), 514);
        due(x.ofLock(0, 2), 6);
        due(x.ofLock(0, 3), 0);
    }

    /** "HELD comes into it, the rest of LOCKFUL from the REACH above; HELD is 0" */
    static void p14FilledByWhatIsHeld() {
        LockStaircase x = canal(1, "a+000");
        x.lock(0, 0, 99);
        x.lock(0, 1, 3);
        makeFull(x, 0);
        makeEmpty(x, 0);
        due(x.ofLock(0, 2), 59);
        due(x.pass(0), 40);
        due(x.ofLock(0, 2), 0);
        due(x.ofReach(1, 0), 500 - 99 - 40);
    }

    /** "SIZE of water goes from the REACH above to that below (3)": none by 0, nine by 9. */
    static void p14SizeUp() {
        LockStaircase x = canal(1, "a+000,b+900");
        due(x.pass(0), 20);
        due(x.ofReach(0, 0), 500);
        x.locks(1);
        tell(x, "b+900");
        due(x.pass(0), 29);
        due(x.ofReach(1, 0), 471);
        due(x.ofReach(0, 0), 509);
    }

    /** "SIZE goes from the REACH below to that above (3)": none by 0, nine by 9. */
    static void p14SizeDown() {
        LockStaircase x = canal(1, "a-001,b-901");
        due(x.pass(0), 20);
        due(x.ofReach(0, 0), 520);
        due(x.pass(1), 11);
        due(x.ofReach(1, 0), 469);
        due(x.ofReach(0, 0), 531);
    }

    /** "SPENT .. (may be below 0)", and may be 0. */
    static void p14SpentBelowNought() {
        LockStaircase x = canal(1, "a-001,b-901");
        makeFull(x, 0);
        due(x.pass(0), 0);
        makeFull(x, 0);
        due(x.pass(1), -9);
    }

    /** "SPENT by it: what left the REACH above, less what came to it": the most that may be. */
    static void p14MostSpent() {
        LockStaircase x = canal(1, "a+900");
        x.lock(0, 0, 99);
        due(x.pass(0), 108);
    }

    /** "Then the BOAT is in the other REACH." */
    static void p14BoatIsInTheOtherReach() {
        LockStaircase x = canal(6, "a+002,b-005");
        x.pass(0);
        due(x.boat(0, 3), 3);
        due(x.boat(0, 2), 1);
        x.pass(1);
        due(x.boat(1, 3), 4);
        due(x.boat(1, 2), 0);
    }

    /** "BARRED: a STEP by which a REACH would be below its LEAST": FILLED for a BOAT up, just so and one more. */
    static void p14FillingUpToLeast() {
        LockStaircase x = canal(1, "a+000");
        x.reach(1, 1, 481);
        due(x.pass(0), BARRED);
        cause(x, 0, 2, 1, 1);
        x.reach(1, 1, 480);
        due(x.pass(0), 20);
    }

    /** "BARRED: a STEP by which a REACH would be below its LEAST": FILLED for a BOAT down, though SIZE would come back. */
    static void p14FillingDownToLeast() {
        LockStaircase x = canal(1, "a-901");
        x.reach(1, 1, 481);
        due(x.pass(0), BARRED);
        cause(x, 0, 2, 1, 1);
        x.reach(1, 1, 480);
        due(x.pass(0), 11);
    }

    /** "BARRED: a STEP by which a REACH would be .. above its MOST": EMPTIED for a BOAT up. */
    static void p14EmptyingUpToMost() {
        LockStaircase x = canal(1, "a+000");
        makeFull(x, 0);
        x.reach(0, 2, 519);
        due(x.pass(0), BARRED);
        cause(x, 0, 1, 0, 2);
        x.reach(0, 2, 520);
        due(x.pass(0), 20);
    }

    /** "BARRED: a STEP by which a REACH would be .. above its MOST": EMPTIED for a BOAT down, though SIZE would go. */
    static void p14EmptyingDownToMost() {
        LockStaircase x = canal(1, "a-901");
        x.reach(0, 2, 519);
        due(x.pass(0), BARRED);
        cause(x, 0, 1, 0, 2);
        x.reach(0, 2, 520);
        due(x.pass(0), 11);
    }

    /** "BARRED: a STEP by which a REACH would be below its LEAST": SIZE of a BOAT up. */
    static void p14SizeUpToLeast() {
        LockStaircase x = canal(1, "a+900");
        x.reach(1, 1, 472);
        due(x.pass(0), BARRED);
        cause(x, 0, 3, 1, 1);
        x.reach(1, 1, 471);
        due(x.pass(0), 29);
    }

    /** "BARRED: a STEP by which a REACH would be .. above its MOST": SIZE of a BOAT up. */
    static void p14SizeUpToMost() {
        LockStaircase x = canal(1, "a+900");
        x.reach(0, 2, 508);
        due(x.pass(0), BARRED);
        cause(x, 0, 3, 0, 2);
        x.reach(0, 2, 509);
        due(x.pass(0), 29);
    }

    /** "BARRED: a STEP by which a REACH would be .. above its MOST": SIZE of a BOAT down. */
    static void p14SizeDownToMost() {
        LockStaircase x = canal(1, "a-901");
        makeFull(x, 0);
        x.reach(1, 2, 488);
        due(x.pass(0), BARRED);
        cause(x, 0, 3, 1, 2);
        x.reach(1, 2, 489);
        due(x.pass(0), -9);
    }

    /** "BARRED: a STEP by which a REACH would be below its LEAST": SIZE of a BOAT down. */
    static void p14SizeDownToLeast() {
        LockStaircase x = canal(1, "a-901");
        x.lock(0, 0, 1);
        makeFull(x, 0);
        x.reach(0, 1, 493);
        due(x.pass(0), BARRED);
        cause(x, 0, 3, 0, 1);
        x.reach(0, 1, 492);
        due(x.pass(0), -9);
    }

    /** "WATER (0 .. 9999 ..)": the REACH above down to 0, and no further. */
    static void p14DownToNought() {
        LockStaircase x = canal(1, "a+000");
        x.reach(1, 0, 19);
        due(x.pass(0), BARRED);
        x.reach(1, 0, 20);
        due(x.pass(0), 20);
        due(x.ofReach(1, 0), 0);
    }

    /** "WATER (0 .. 9999 ..)": the REACH below up to 9999, and no further. */
    static void p14UpTo9999() {
        LockStaircase x = canal(1, "a-001");
        x.reach(0, 0, 9980);
        due(x.pass(0), BARRED);
        x.reach(0, 0, 9979);
        due(x.pass(0), 20);
        due(x.ofReach(0, 0), 9999);
    }

    /** "nothing of the PASSAGE is done then": of one up that is BARRED by its third STEP. */
    static void p14NothingOfABarredPassageUp() {
        LockStaircase x = canal(1, "a+900");
        x.lock(0, 1, 2);
        makeFull(x, 0);
        x.reach(1, 1, 462);
        String before = picture(x);
        due(x.pass(0), BARRED);
        due(x.why(1), 3);
        holds(picture(x).equals(before));
        x.reach(1, 1, 461);
        due(x.pass(0), 19);
    }

    /** "nothing of the PASSAGE is done then": of one down that is BARRED by its third STEP. */
    static void p14NothingOfABarredPassageDown() {
        LockStaircase x = canal(1, "a-901");
        x.lock(0, 0, 2);
        x.lock(0, 1, 2);
        makeFull(x, 0);
        makeEmpty(x, 0);
        x.reach(1, 2, 505);
        String before = picture(x);
        due(x.pass(0), BARRED);
        due(x.why(1), 3);
        holds(picture(x).equals(before));
        x.reach(1, 2, 506);
        due(x.pass(0), -8);
    }

    /** "nothing of the PASSAGE is done then": of one up that was EMPTIED and cannot be FILLED. */
    static void p14NothingOfABarredFilling() {
        LockStaircase x = canal(1, "a+000");
        makeFull(x, 0);
        x.reach(1, 1, 461);
        String before = picture(x);
        due(x.pass(0), BARRED);
        due(x.why(1), 2);
        holds(picture(x).equals(before));
    }

    /** "nothing of the PASSAGE is done then": of one down that was FILLED and cannot be EMPTIED. */
    static void p14NothingOfABarredEmptying() {
        LockStaircase x = canal(1, "a-001");
        x.lock(0, 1, 2);
        makeFull(x, 0);
        makeEmpty(x, 0);
        x.reach(0, 2, 519);
        String before = picture(x);
        due(x.pass(0), BARRED);
        due(x.why(1), 1);
        holds(picture(x).equals(before));
    }

    /** "run(), day(), through(), pass() tell THE TALLY": a BARRED PASSAGE is none of it. */
    static void p14TellsTheTally() {
        LockStaircase x = canal(1, "a+900");
        due(x.pass(0), 29);
        due(x.count(3), 1);
        due(x.tally(0, 0), 29);
        due(x.pass(0), NONE);
        x.reach(0, 2, 528);
        x.about(0);
        due(x.pass(0), BARRED);
        due(x.count(3), 1);
    }

    /** "BAD": no such BOAT. */
    static void p15NoSuchBoat() {
        LockStaircase x = new LockStaircase();
        due(x.through(0), BAD);
        tell(x, "a+000");
        due(x.through(1), BAD);
        due(x.through(-1), BAD);
        due(x.through(LEAST_INT), BAD);
        due(x.through(MOST_INT), BAD);
        due(x.count(3), 0);
    }

    /** "through() of a BOAT that has no LOCK its WAY: 0." */
    static void p15NoLockItsWay() {
        LockStaircase x = canal(2, "a+002,b-000");
        due(x.through(0), 0);
        due(x.through(1), 0);
        due(x.boat(0, 3), 2);
        due(x.boat(1, 3), 0);
        due(x.why(0), NOT);
    }

    /** "A BOAT goes through all LOCKS its WAY": one, and six. */
    static void p15AllLocks() {
        for (int n = 1; n <= 6; n++) {
            LockStaircase x = canal(n, "a+000,b-00" + n);
            due(x.through(0), n);
            due(x.boat(0, 3), n);
            due(x.through(1), n);
            due(x.boat(1, 3), 0);
            due(x.count(3), 2 * n);
        }
    }

    /** "A BOAT goes through all LOCKS its WAY": those ahead of it alone. */
    static void p15LocksAhead() {
        LockStaircase x = canal(6, "a+004,b-002");
        due(x.through(0), 2);
        due(x.count(5), 2);
        due(x.through(1), 2);
        due(x.ofReach(0, 0), 520);
    }

    /** "till it is BARRED": at the first LOCK. */
    static void p15BarredAtOnce() {
        LockStaircase x = canal(3, "a+000");
        x.reach(1, 1, 481);
        due(x.through(0), 0);
        due(x.boat(0, 3), 0);
        cause(x, 0, 2, 1, 1);
    }

    /** "till it is BARRED: how many it went through" */
    static void p15BarredAtTheLast() {
        LockStaircase x = canal(6, "a+000");
        x.reach(6, 0, 19);
        due(x.through(0), 5);
        due(x.boat(0, 3), 5);
        due(x.ofReach(5, 0), 480);
        cause(x, 5, 2, 6, 1);
        due(x.through(0), 0);
        x.reach(6, 0, 20);
        due(x.through(0), 1);
    }

    /** "run(), day(), through(), pass() tell THE TALLY" */
    static void p15TellsTheTally() {
        LockStaircase x = canal(3, "a+000");
        x.lock(1, 0, 30);
        x.reach(3, 0, 0);
        due(x.through(0), 2);
        due(x.tally(-1, 0), 2);
        due(x.tally(0, 0), 20);
        due(x.tally(1, 0), 30);
    }

    /** "VOID: BAD." */
    static void p16NoSuchBoat() {
        LockStaircase x = new LockStaircase();
        due(x.costs(0), VOID);
        tell(x, "a+000");
        due(x.costs(1), VOID);
        due(x.costs(-1), VOID);
        due(x.costs(LEAST_INT), VOID);
        due(x.costs(MOST_INT), VOID);
    }

    /** "costs(): what THE SUMMIT lost up to where it is BARRED": at its LOCK, and below that. */
    static void p16UpToWhereItIsBarred() {
        LockStaircase x = canal(2, "a-902,b+000");
        x.reach(0, 2, 519);
        due(x.costs(0), 11);
        x.reach(1, 2, 519);
        due(x.costs(0), 0);
        x.reach(1, 2, 9999);
        due(x.costs(1), 20);
        x.reach(2, 1, 481);
        due(x.costs(1), 0);
    }

    /** "costs(): .. or through all" */
    static void p16ThroughAll() {
        LockStaircase x = canal(6, "a+900,b-906");
        due(x.costs(0), 29);
        due(x.costs(1), 11);
    }

    /** "costs(): .. may be below 0" */
    static void p16BelowNought() {
        LockStaircase x = canal(2, "a-902");
        makeFull(x, 1);
        due(x.costs(0), -9);
    }

    /** "through() of a BOAT that has no LOCK its WAY: 0": so it costs nothing. */
    static void p16NoLockItsWay() {
        LockStaircase x = canal(2, "a+902,b-900");
        due(x.costs(0), 0);
        due(x.costs(1), 0);
    }

    /** "What THE SUMMIT would lose": not another REACH. */
    static void p16OfTheSummitAlone() {
        LockStaircase x = canal(2, "a-901,b+000");
        due(x.costs(0), 0);
        x.reach(2, 1, 500);
        due(x.costs(1), 0);
    }

    /** "What THE SUMMIT would lose": nothing is done; "what is in thought tells neither". */
    static void p16InThought() {
        LockStaircase x = canal(2, "a+900,b-902");
        x.reach(0, 2, 511);
        String before = picture(x);
        due(x.costs(0), 29);
        due(x.costs(1), 11);
        holds(picture(x).equals(before));
        due(x.why(0), NOT);
    }

    /** "BAD: i": below 0 and above 3, ahead of "NOT: none was". */
    static void p17NoSuchNumber() {
        LockStaircase x = new LockStaircase();
        for (int time = 0; time < 2; time++) {
            due(x.why(-1), BAD);
            due(x.why(4), BAD);
            due(x.why(LEAST_INT), BAD);
            due(x.why(MOST_INT), BAD);
            x.reach(2, 0, 0);
            x.day(0, 1);
        }
        due(x.why(3), 1);
    }

    /** "NOT: none was." */
    static void p17NoneWas() {
        LockStaircase x = canal(2, "a+000");
        for (int i = 0; i <= 3; i++) {
            due(x.why(i), NOT);
        }
        due(x.through(0), 2);
        for (int i = 0; i <= 3; i++) {
            due(x.why(i), NOT);
        }
    }

    /** "NOT: none was": a refused PASSAGE is none that is BARRED. */
    static void p17RefusedIsNotBarred() {
        LockStaircase x = canal(2, "a+002");
        due(x.pass(0), NONE);
        due(x.pass(1), VOID);
        due(x.through(0), 0);
        due(x.why(0), NOT);
    }

    /** "Of the latest PASSAGE that was truly BARRED" */
    static void p17TheLatest() {
        LockStaircase x = canal(2, "a+000,b-002");
        x.reach(1, 1, 500);
        due(x.pass(0), BARRED);
        cause(x, 0, 2, 1, 1);
        x.reach(1, 2, 500);
        due(x.pass(1), BARRED);
        cause(x, 1, 1, 1, 2);
        x.reach(1, 2, 9999);
        due(x.pass(1), 20);
        cause(x, 1, 1, 1, 2);
    }

    /** "the REACH above is looked at first": in the third STEP of a BOAT up both would be wrong. */
    static void p17ReachAboveFirstUp() {
        LockStaircase x = canal(1, "a+900");
        x.reach(1, 1, 472);
        x.reach(0, 2, 508);
        due(x.pass(0), BARRED);
        cause(x, 0, 3, 1, 1);
    }

    /** "the REACH above is looked at first": in the third STEP of a BOAT down both would be wrong. */
    static void p17ReachAboveFirstDown() {
        LockStaircase x = canal(1, "a-901");
        x.lock(0, 0, 1);
        makeFull(x, 0);
        x.reach(1, 2, 507);
        x.reach(0, 1, 493);
        due(x.pass(0), BARRED);
        cause(x, 0, 3, 1, 2);
    }

    /** "a STEP": the first one that cannot be done is told, in the order of the WAY. */
    static void p17TheFirstStep() {
        LockStaircase x = canal(1, "a+900,b-901");
        x.reach(1, 1, 500);
        x.reach(0, 2, 500);
        due(x.pass(1), BARRED);
        cause(x, 0, 2, 1, 1);
        x.reach(1, 1, 0);
        x.reach(0, 2, 9999);
        makeFull(x, 0);
        x.reach(1, 1, 480);
        x.reach(0, 2, 500);
        due(x.pass(0), BARRED);
        cause(x, 0, 1, 0, 2);
    }

    /** "what is in thought tells neither": none of these calls tells why(). */
    static void p17ThoughtsTellNone() {
        LockStaircase x = canal(1, "a+000,b-001");
        x.reach(1, 1, 500);
        due(x.costs(0), 0);
        due(x.orders(0), 0);
        due(x.best(0, -1), NONE);
        due(x.ruled(0, 0, 1), 0);
        due(x.keeper(0), 0);
        due(x.dry(1, 0, 0), 0);
        due(x.pond(1, 1, 1), NOT);
        due(x.why(0), NOT);
    }
}
