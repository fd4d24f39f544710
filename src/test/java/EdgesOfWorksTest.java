/** The boundary cases of promises 1 to 8: a new object, locks, reaches, feed, the bytes of the tape. */
public final class EdgesOfWorksTest extends Edges {
    public static void main(String[] args) {
        runAll(EdgesOfWorksTest.class, 1, 8);
    }

    /** "Two LOCKS, no BOATS." */
    static void p01TwoLocks() {
        LockStaircase x = new LockStaircase();
        due(x.count(0), 2);
        due(x.ofLock(1, 0), 20);
        due(x.ofLock(2, 0), BAD);
        due(x.ofReach(2, 0), 500);
        due(x.ofReach(3, 0), BAD);
    }

    /** "Two LOCKS, no BOATS." */
    static void p01NoBoats() {
        LockStaircase x = new LockStaircase();
        due(x.count(1), 0);
        due(x.boat(0, 0), BAD);
        due(x.ofReach(0, 4), 0);
    }

    /** "A LOCK has a LOCKFUL (1 .. 99; 20 at first)" */
    static void p01LockfulAtFirst() {
        LockStaircase x = new LockStaircase();
        due(x.ofLock(0, 0), 20);
        due(x.ofLock(1, 0), 20);
    }

    /** "PONDS (0 .. 3; 0 at first)" */
    static void p01PondsAtFirst() {
        LockStaircase x = new LockStaircase();
        due(x.ofLock(0, 1), 0);
        due(x.ofLock(1, 1), 0);
    }

    /** "HELD (what its PONDS hold; 0 at first)" */
    static void p01HeldAtFirst() {
        LockStaircase x = new LockStaircase();
        due(x.ofLock(0, 2), 0);
        due(x.ofLock(1, 2), 0);
    }

    /** "it is FULL, or EMPTY (at first)" */
    static void p01EmptyAtFirst() {
        LockStaircase x = new LockStaircase();
        due(x.ofLock(0, 3), 0);
        due(x.ofLock(1, 3), 0);
        due(x.count(5), 0);
    }

    /** "A REACH has WATER (0 .. 9999; 500 at first)" */
    static void p01WaterAtFirst() {
        LockStaircase x = new LockStaircase();
        for (int reach = 0; reach <= 2; reach++) {
            due(x.ofReach(reach, 0), 500);
        }
    }

    /** "LEAST (0 .. 9999; 0 at first)" */
    static void p01LeastAtFirst() {
        LockStaircase x = new LockStaircase();
        for (int reach = 0; reach <= 2; reach++) {
            due(x.ofReach(reach, 1), 0);
        }
    }

    /** "MOST (0 .. 9999; 9999 at first)" */
    static void p01MostAtFirst() {
        LockStaircase x = new LockStaircase();
        for (int reach = 0; reach <= 2; reach++) {
            due(x.ofReach(reach, 2), 9999);
        }
    }

    /** "THE SUMMIT's FEED (0 .. 999 a DAY; 0 at first)" */
    static void p01FeedAtFirst() {
        LockStaircase x = new LockStaircase();
        due(x.count(4), 0);
        due(x.feeds(1), 0);
    }

    /** "LOSS of a REACH (0 .. 99 a DAY; 0 at first)" */
    static void p01LossAtFirst() {
        LockStaircase x = new LockStaircase();
        for (int reach = 0; reach <= 2; reach++) {
            due(x.ofReach(reach, 3), 0);
        }
    }

    /** "THE TAPE holds 0 .. 60 bytes": none in a new object. */
    static void p01TapeAtFirst() {
        LockStaircase x = new LockStaircase();
        due(x.count(2), 0);
        due(x.feed('a'), 1);
    }

    /** "THE TALLY: SPENT of all PASSAGES that were truly done": none in a new object. */
    static void p01TallyAtFirst() {
        LockStaircase x = new LockStaircase();
        due(x.tally(-1, 0), 0);
        due(x.tally(-1, 1), 0);
        due(x.tally(MOST_INT, 2), 0);
        due(x.count(3), 0);
    }

    /** "An object is used for at most 512 calls": the last of them still answers. */
    static void p01FiveHundredTwelfthCall() {
        LockStaircase x = new LockStaircase();
        int calls = 0;
        x.locks(6);
        calls++;
        for (int lock = 0; lock < 6; lock++) {
            x.lock(lock, 0, 1);
            calls++;
        }
        x.reach(6, 0, 9999);
        calls++;
        int days = 0;
        while (calls < 511) {
            due(x.day(4, 4), 48);
            days++;
            calls++;
        }
        due(x.count(3), 48 * days);
    }

    /** "LOCKS 0 .. n - 1 (n 1 .. 6 ..)": none is too few. */
    static void p02NoLock() {
        LockStaircase x = new LockStaircase();
        due(x.locks(0), BAD);
        due(x.locks(-1), BAD);
        due(x.locks(LEAST_INT), BAD);
    }

    /** "LOCKS 0 .. n - 1 (n 1 .. 6 ..)": one is the least. */
    static void p02OneLock() {
        LockStaircase x = new LockStaircase();
        due(x.locks(1), 2);
        due(x.count(0), 1);
    }

    /** "LOCKS 0 .. n - 1 (n 1 .. 6 ..)": six are the most. */
    static void p02SixLocks() {
        LockStaircase x = new LockStaircase();
        due(x.locks(6), 2);
        due(x.count(0), 6);
    }

    /** "LOCKS 0 .. n - 1 (n 1 .. 6 ..)": seven are too many. */
    static void p02SevenLocks() {
        LockStaircase x = new LockStaircase();
        due(x.locks(7), BAD);
        due(x.locks(8), BAD);
        due(x.locks(MOST_INT), BAD);
    }

    /** "LOCKS 0 .. n - 1 ..; REACHES 0 .. n" */
    static void p02LocksAndReachesOfEach() {
        LockStaircase x = new LockStaircase();
        for (int n = 1; n <= 6; n++) {
            x.locks(n);
            due(x.ofLock(n - 1, 0), 20);
            due(x.ofLock(n, 0), BAD);
            due(x.ofReach(n, 0), 500);
            due(x.ofReach(n + 1, 0), BAD);
        }
    }

    /** "nothing changes but where it is told" */
    static void p02RefusedChangesNothing() {
        LockStaircase x = canal(2, "a+001,b-231");
        x.pass(0);
        x.feeds(7);
        type(x, "xy");
        String before = picture(x);
        due(x.locks(0), BAD);
        due(x.locks(7), BAD);
        holds(picture(x).equals(before));
    }

    /** "how many LOCKS there were" */
    static void p02HowManyThereWere() {
        LockStaircase x = new LockStaircase();
        due(x.locks(6), 2);
        due(x.locks(6), 6);
        due(x.locks(1), 6);
        due(x.locks(3), 1);
    }

    /** "all of these .. are as at first": LOCKS, though as many as before. */
    static void p02LocksAsAtFirst() {
        LockStaircase x = canal(2, "");
        for (int lock = 0; lock < 2; lock++) {
            x.lock(lock, 0, 30);
            x.lock(lock, 1, 3);
        }
        makeFull(x, 0);
        makeFull(x, 1);
        makeEmpty(x, 1);
        due(x.locks(2), 2);
        for (int lock = 0; lock < 2; lock++) {
            due(x.ofLock(lock, 0), 20);
            due(x.ofLock(lock, 1), 0);
            due(x.ofLock(lock, 2), 0);
            due(x.ofLock(lock, 3), 0);
        }
    }

    /** "all of these .. are as at first": LOCKS that were none for a while. */
    static void p02LocksThatComeBack() {
        LockStaircase x = canal(6, "");
        x.lock(5, 0, 30);
        x.lock(5, 1, 3);
        makeFull(x, 5);
        x.reach(6, 0, 7);
        x.reach(6, 3, 7);
        x.locks(1);
        due(x.count(5), 0);
        due(x.locks(6), 1);
        due(x.ofLock(5, 0), 20);
        due(x.ofLock(5, 1), 0);
        due(x.ofLock(5, 3), 0);
        due(x.ofReach(6, 0), 500);
        due(x.ofReach(6, 3), 0);
    }

    /** "all of these and REACHES .. are as at first" */
    static void p02ReachesAsAtFirst() {
        LockStaircase x = new LockStaircase();
        for (int reach = 0; reach <= 2; reach++) {
            x.reach(reach, 0, 700);
            x.reach(reach, 1, 600);
            x.reach(reach, 2, 800);
        }
        x.locks(2);
        for (int reach = 0; reach <= 2; reach++) {
            due(x.ofReach(reach, 0), 500);
            due(x.ofReach(reach, 1), 0);
            due(x.ofReach(reach, 2), 9999);
        }
    }

    /** "FEED .. as at first" */
    static void p02FeedAsAtFirst() {
        LockStaircase x = new LockStaircase();
        x.feeds(999);
        x.locks(2);
        due(x.count(4), 0);
    }

    /** "LOSSES are as at first" */
    static void p02LossesAsAtFirst() {
        LockStaircase x = new LockStaircase();
        for (int reach = 0; reach <= 2; reach++) {
            x.reach(reach, 3, 99);
        }
        x.locks(2);
        for (int reach = 0; reach <= 2; reach++) {
            due(x.ofReach(reach, 3), 0);
        }
    }

    /** "there are no BOATS" */
    static void p02NoBoats() {
        LockStaircase x = canal(2, "a+000,b-002");
        x.locks(2);
        due(x.count(1), 0);
        due(x.boat(0, 0), BAD);
        due(named(x, "a"), NOT);
        due(x.ofReach(0, 4), 0);
    }

    /** "locks() leaves THE TALLY" */
    static void p02LeavesTally() {
        LockStaircase x = canal(2, "a+000");
        due(x.pass(0), 20);
        x.locks(1);
        due(x.count(3), 1);
        due(x.tally(0, 0), 20);
    }

    /** "locks() leaves .. THE ACCOUNT" */
    static void p02LeavesAccount() {
        LockStaircase x = new LockStaircase();
        x.pays(-3, 4);
        x.locks(6);
        due(x.account(), -12);
    }

    /** "locks() leaves .. THE TAPE" */
    static void p02LeavesTape() {
        LockStaircase x = new LockStaircase();
        type(x, "ab+102");
        x.locks(2);
        due(x.count(2), 6);
        due(x.boats(), 1);
    }

    /** "locks() leaves .. why()": of a LOCK, too, that is there no more. */
    static void p02LeavesWhy() {
        LockStaircase x = canal(6, "a+005");
        x.reach(6, 0, 0);
        due(x.pass(0), BARRED);
        x.locks(1);
        cause(x, 5, 2, 6, 1);
    }

    /** "LOCKFUL (1 .. 99 ..)": 1 is the least. */
    static void p03LeastLockful() {
        LockStaircase x = new LockStaircase();
        due(x.lock(0, 0, 0), BAD);
        due(x.lock(0, 0, LEAST_INT), BAD);
        due(x.lock(0, 0, 1), 20);
        due(x.ofLock(0, 0), 1);
    }

    /** "LOCKFUL (1 .. 99 ..)": 99 is the most. */
    static void p03MostLockful() {
        LockStaircase x = new LockStaircase();
        due(x.lock(0, 0, 100), BAD);
        due(x.lock(0, 0, MOST_INT), BAD);
        due(x.lock(0, 0, 99), 20);
        due(x.ofLock(0, 0), 99);
    }

    /** "PONDS (0 .. 3 ..)": 0 is the least. */
    static void p03LeastPonds() {
        LockStaircase x = new LockStaircase();
        due(x.lock(0, 1, 1), 0);
        due(x.lock(0, 1, -1), BAD);
        due(x.lock(0, 1, LEAST_INT), BAD);
        due(x.lock(0, 1, 0), 1);
        due(x.ofLock(0, 1), 0);
    }

    /** "PONDS (0 .. 3 ..)": 3 is the most. */
    static void p03MostPonds() {
        LockStaircase x = new LockStaircase();
        due(x.lock(0, 1, 4), BAD);
        due(x.lock(0, 1, 20), BAD);
        due(x.lock(0, 1, MOST_INT), BAD);
        due(x.lock(0, 1, 3), 0);
        due(x.ofLock(0, 1), 3);
    }

    /** "BAD (-1): no such one": a LOCK. */
    static void p03NoSuchLock() {
        LockStaircase x = new LockStaircase();
        due(x.lock(-1, 0, 5), BAD);
        due(x.lock(2, 0, 5), BAD);
        due(x.lock(LEAST_INT, 1, 1), BAD);
        due(x.lock(MOST_INT, 1, 1), BAD);
        x.locks(6);
        due(x.lock(6, 0, 5), BAD);
        due(x.lock(5, 0, 5), 20);
        x.locks(1);
        due(x.lock(1, 0, 5), BAD);
        due(x.lock(0, 0, 5), 20);
    }

    /** "LOCKFUL (what 0), PONDS (1)": no other what. */
    static void p03NoSuchWhat() {
        LockStaircase x = new LockStaircase();
        due(x.lock(0, -1, 1), BAD);
        due(x.lock(0, 2, 1), BAD);
        due(x.lock(0, LEAST_INT, 1), BAD);
        due(x.lock(0, MOST_INT, 1), BAD);
    }

    /** "becomes v: what it was" */
    static void p03WhatItWas() {
        LockStaircase x = new LockStaircase();
        due(x.lock(1, 0, 99), 20);
        due(x.lock(1, 0, 99), 99);
        due(x.lock(1, 1, 2), 0);
        due(x.lock(1, 1, 3), 2);
        due(x.lock(1, 0, 1), 99);
        due(x.ofLock(1, 1), 3);
    }

    /** "STATE: it is FULL" */
    static void p03Full() {
        LockStaircase x = canal(2, "");
        makeFull(x, 0);
        due(x.lock(0, 0, 20), STATE);
        due(x.lock(0, 0, 30), STATE);
        due(x.lock(0, 1, 0), STATE);
        due(x.lock(0, 1, 1), STATE);
        due(x.lock(1, 0, 30), 20);
    }

    /** "STATE: .. HELD is above 0": 1 is. */
    static void p03HeldAboveNought() {
        LockStaircase x = canal(2, "");
        x.lock(0, 0, 2);
        x.lock(0, 1, 2);
        makeFull(x, 0);
        makeEmpty(x, 0);
        due(x.ofLock(0, 2), 1);
        due(x.lock(0, 0, 3), STATE);
        due(x.lock(0, 1, 3), STATE);
    }

    /** "STATE: it is FULL, or HELD is above 0": EMPTY again with HELD 0 is neither. */
    static void p03HeldNoughtAgain() {
        LockStaircase x = canal(2, "");
        x.lock(0, 0, 1);
        x.lock(0, 1, 3);
        makeFull(x, 0);
        makeEmpty(x, 0);
        due(x.ofLock(0, 2), 0);
        due(x.lock(0, 0, 3), 1);
        due(x.lock(0, 1, 2), 3);
    }

    /** "of several the first as the call's words name them": BAD, then STATE. */
    static void p03BadAheadOfState() {
        LockStaircase x = canal(2, "");
        makeFull(x, 0);
        due(x.lock(0, 0, 0), BAD);
        due(x.lock(0, 0, 100), BAD);
        due(x.lock(0, 1, 4), BAD);
        due(x.lock(0, 2, 1), BAD);
    }

    /** "nothing changes but where it is told" */
    static void p03RefusedChangesNothing() {
        LockStaircase x = canal(2, "");
        makeFull(x, 0);
        String before = picture(x);
        due(x.lock(0, 0, 7), STATE);
        due(x.lock(0, 1, 1), STATE);
        due(x.lock(1, 0, 100), BAD);
        due(x.lock(1, 1, 4), BAD);
        holds(picture(x).equals(before));
    }

    /** "SHARE is LOCKFUL * PONDS / (PONDS + 2) (cut)" */
    static void p04ShareIsCut() {
        LockStaircase x = new LockStaircase();
        int[] lockfuls = {1, 2, 3, 20, 98, 99};
        int[][] shares = {{0, 0, 0}, {0, 1, 1}, {1, 1, 1}, {6, 10, 12}, {32, 49, 58}, {33, 49, 59}};
        for (int i = 0; i < lockfuls.length; i++) {
            x.lock(0, 0, lockfuls[i]);
            for (int ponds = 1; ponds <= 3; ponds++) {
                x.lock(0, 1, ponds);
                due(x.ofLock(0, 4), shares[i][ponds - 1]);
            }
        }
    }

    /** "SHARE is LOCKFUL * PONDS / (PONDS + 2)": 0 without PONDS. */
    static void p04ShareWithoutPonds() {
        LockStaircase x = new LockStaircase();
        x.lock(0, 0, 99);
        due(x.ofLock(0, 4), 0);
        makeFull(x, 0);
        due(x.ofLock(0, 4), 0);
    }

    /** "(HELD is 0 in a FULL one.)" */
    static void p04HeldOfFull() {
        LockStaircase x = canal(2, "");
        x.lock(0, 1, 2);
        makeFull(x, 0);
        due(x.ofLock(0, 2), 0);
        makeEmpty(x, 0);
        due(x.ofLock(0, 2), 10);
        makeFull(x, 0);
        due(x.ofLock(0, 2), 0);
    }

    /** "whether it is FULL (3; 1, 0)" */
    static void p04FullOrEmpty() {
        LockStaircase x = canal(2, "");
        due(x.ofLock(1, 3), 0);
        makeFull(x, 1);
        due(x.ofLock(1, 3), 1);
        due(x.ofLock(0, 3), 0);
        makeEmpty(x, 1);
        due(x.ofLock(1, 3), 0);
    }

    /** "BAD (-1): no such one": a LOCK. */
    static void p04NoSuchLock() {
        LockStaircase x = new LockStaircase();
        for (int n = 1; n <= 6; n++) {
            x.locks(n);
            due(x.ofLock(n, 0), BAD);
            due(x.ofLock(-1, 0), BAD);
            due(x.ofLock(n - 1, 0), 20);
        }
        due(x.ofLock(LEAST_INT, 0), BAD);
        due(x.ofLock(MOST_INT, 0), BAD);
    }

    /** "LOCKFUL (what 0), .. SHARE (4)": no other what. */
    static void p04NoSuchWhat() {
        LockStaircase x = new LockStaircase();
        due(x.ofLock(0, -1), BAD);
        due(x.ofLock(0, 5), BAD);
        due(x.ofLock(0, LEAST_INT), BAD);
        due(x.ofLock(0, MOST_INT), BAD);
    }

    /** "WATER (0 .. 9999 ..)" */
    static void p05WaterFromNoughtTo9999() {
        LockStaircase x = new LockStaircase();
        due(x.reach(0, 0, -1), BAD);
        due(x.reach(0, 0, LEAST_INT), BAD);
        due(x.reach(0, 0, 0), 500);
        due(x.reach(0, 0, 10000), BAD);
        due(x.reach(0, 0, MOST_INT), BAD);
        due(x.reach(0, 0, 9999), 0);
        due(x.ofReach(0, 0), 9999);
    }

    /** "LEAST (0 .. 9999 ..)" */
    static void p05LeastFromNoughtTo9999() {
        LockStaircase x = new LockStaircase();
        x.reach(0, 0, 9999);
        due(x.reach(0, 1, 10000), BAD);
        due(x.reach(0, 1, MOST_INT), BAD);
        due(x.reach(0, 1, 9999), 0);
        due(x.reach(0, 1, -1), BAD);
        due(x.reach(0, 1, LEAST_INT), BAD);
        due(x.reach(0, 1, 0), 9999);
    }

    /** "MOST (0 .. 9999 ..)" */
    static void p05MostFromNoughtTo9999() {
        LockStaircase x = new LockStaircase();
        x.reach(0, 0, 0);
        due(x.reach(0, 2, -1), BAD);
        due(x.reach(0, 2, LEAST_INT), BAD);
        due(x.reach(0, 2, 0), 9999);
        due(x.reach(0, 2, 10000), BAD);
        due(x.reach(0, 2, MOST_INT), BAD);
        due(x.reach(0, 2, 9999), 0);
    }

    /** "LOSS of a REACH (0 .. 99 a DAY ..)" */
    static void p05LossFromNoughtTo99() {
        LockStaircase x = new LockStaircase();
        due(x.reach(0, 3, 100), BAD);
        due(x.reach(0, 3, 9999), BAD);
        due(x.reach(0, 3, 99), 0);
        due(x.reach(0, 3, -1), BAD);
        due(x.reach(0, 3, LEAST_INT), BAD);
        due(x.reach(0, 3, 0), 99);
    }

    /** "REACHES 0 .. n" */
    static void p05NoSuchReach() {
        LockStaircase x = new LockStaircase();
        for (int n = 1; n <= 6; n++) {
            x.locks(n);
            due(x.reach(-1, 0, 1), BAD);
            due(x.reach(n + 1, 0, 1), BAD);
            due(x.reach(n, 0, 1), 500);
        }
        due(x.reach(LEAST_INT, 0, 1), BAD);
        due(x.reach(MOST_INT, 0, 1), BAD);
    }

    /** "WATER (what 0), LEAST (1), MOST (2), LOSS (3)": no other what. */
    static void p05NoSuchWhat() {
        LockStaircase x = new LockStaircase();
        due(x.reach(0, -1, 1), BAD);
        due(x.reach(0, 4, 1), BAD);
        due(x.reach(0, LEAST_INT, 1), BAD);
        due(x.reach(0, MOST_INT, 1), BAD);
    }

    /** "STATE: WATER would be below LEAST": by its WATER. */
    static void p05WaterBelowLeast() {
        LockStaircase x = new LockStaircase();
        x.reach(1, 1, 300);
        due(x.reach(1, 0, 299), STATE);
        due(x.reach(1, 0, 300), 500);
    }

    /** "STATE: WATER would be .. above MOST": by its WATER. */
    static void p05WaterAboveMost() {
        LockStaircase x = new LockStaircase();
        x.reach(1, 2, 700);
        due(x.reach(1, 0, 701), STATE);
        due(x.reach(1, 0, 700), 500);
    }

    /** "STATE: WATER would be below LEAST": by its LEAST. */
    static void p05LeastAboveWater() {
        LockStaircase x = new LockStaircase();
        due(x.reach(1, 1, 501), STATE);
        due(x.reach(1, 1, 500), 0);
    }

    /** "STATE: WATER would be .. above MOST": by its MOST. */
    static void p05MostBelowWater() {
        LockStaircase x = new LockStaircase();
        due(x.reach(1, 2, 499), STATE);
        due(x.reach(1, 2, 500), 9999);
    }

    /** "STATE: WATER would be below LEAST, or above MOST": by no LOSS. */
    static void p05LossIsNoState() {
        LockStaircase x = new LockStaircase();
        x.reach(1, 1, 500);
        x.reach(1, 2, 500);
        due(x.reach(1, 3, 99), 0);
        due(x.ofReach(1, 0), 500);
    }

    /** "of several the first as the call's words name them": BAD, then STATE. */
    static void p05BadAheadOfState() {
        LockStaircase x = new LockStaircase();
        x.reach(1, 1, 500);
        x.reach(1, 2, 500);
        due(x.reach(1, 0, -1), BAD);
        due(x.reach(1, 0, 10000), BAD);
        due(x.reach(1, 1, 10000), BAD);
        due(x.reach(1, 2, -1), BAD);
    }

    /** "nothing changes but where it is told" */
    static void p05RefusedChangesNothing() {
        LockStaircase x = new LockStaircase();
        x.reach(1, 1, 400);
        x.reach(1, 2, 600);
        String before = picture(x);
        due(x.reach(1, 0, 399), STATE);
        due(x.reach(1, 0, 601), STATE);
        due(x.reach(1, 1, 501), STATE);
        due(x.reach(1, 2, 499), STATE);
        due(x.reach(1, 0, 10000), BAD);
        due(x.reach(1, 3, 100), BAD);
        holds(picture(x).equals(before));
    }

    /** "becomes v: what it was": that number alone, of that REACH alone. */
    static void p05WhatItWas() {
        LockStaircase x = new LockStaircase();
        due(x.reach(2, 0, 40), 500);
        due(x.reach(2, 1, 30), 0);
        due(x.reach(2, 2, 50), 9999);
        due(x.reach(2, 3, 20), 0);
        due(x.reach(2, 0, 40), 40);
        due(x.reach(2, 1, 30), 30);
        due(x.reach(2, 2, 50), 50);
        due(x.reach(2, 3, 20), 20);
        due(x.ofReach(1, 0), 500);
        due(x.ofReach(1, 1), 0);
        due(x.ofReach(1, 2), 9999);
        due(x.ofReach(1, 3), 0);
    }

    /** "how many BOATS are in it (4)": none, and all twelve, whichever their WAY. */
    static void p06NoneAndTwelve() {
        LockStaircase x = canal(2, "a+001,b-001,c+001,d-001,e+001,f-001,g+001,h-001,i+001,j-001");
        tell(x, "k+001,l-001");
        due(x.ofReach(0, 4), 0);
        due(x.ofReach(1, 4), 12);
        due(x.ofReach(2, 4), 0);
    }

    /** "BAD (-1): no such one": a REACH. */
    static void p06NoSuchReach() {
        LockStaircase x = new LockStaircase();
        for (int n = 1; n <= 6; n++) {
            x.locks(n);
            due(x.ofReach(-1, 0), BAD);
            due(x.ofReach(n + 1, 0), BAD);
            due(x.ofReach(n + 1, 4), BAD);
            due(x.ofReach(n, 0), 500);
        }
        due(x.ofReach(LEAST_INT, 4), BAD);
        due(x.ofReach(MOST_INT, 4), BAD);
    }

    /** "The same numbers of a REACH, how many BOATS are in it (4)": no other what. */
    static void p06NoSuchWhat() {
        LockStaircase x = new LockStaircase();
        due(x.ofReach(0, -1), BAD);
        due(x.ofReach(0, 5), BAD);
        due(x.ofReach(0, LEAST_INT), BAD);
        due(x.ofReach(0, MOST_INT), BAD);
    }

    /** "FEED (0 .. 999 a DAY ..)": 0 is the least. */
    static void p07LeastFeed() {
        LockStaircase x = new LockStaircase();
        x.feeds(5);
        due(x.feeds(-1), BAD);
        due(x.feeds(LEAST_INT), BAD);
        due(x.feeds(0), 5);
        due(x.count(4), 0);
    }

    /** "FEED (0 .. 999 a DAY ..)": 999 is the most. */
    static void p07MostFeed() {
        LockStaircase x = new LockStaircase();
        due(x.feeds(1000), BAD);
        due(x.feeds(MOST_INT), BAD);
        due(x.feeds(999), 0);
        due(x.count(4), 999);
    }

    /** "nothing changes but where it is told" */
    static void p07RefusedChangesNothing() {
        LockStaircase x = new LockStaircase();
        x.feeds(12);
        due(x.feeds(1000), BAD);
        due(x.feeds(-1), BAD);
        due(x.feeds(12), 12);
    }

    /** "bytes 32 .. 126": 32 is the least. */
    static void p08LeastByte() {
        LockStaircase x = new LockStaircase();
        due(x.feed(31), BAD);
        due(x.feed(0), BAD);
        due(x.feed(-1), BAD);
        due(x.feed(LEAST_INT), BAD);
        due(x.feed(32), 1);
    }

    /** "bytes 32 .. 126": 126 is the most. */
    static void p08MostByte() {
        LockStaircase x = new LockStaircase();
        due(x.feed(127), BAD);
        due(x.feed(256 + 'a'), BAD);
        due(x.feed(MOST_INT), BAD);
        due(x.feed(126), 1);
    }

    /** "THE TAPE holds 0 .. 60 bytes": the sixtieth comes, the next one is FULL. */
    static void p08SixtyBytes() {
        LockStaircase x = new LockStaircase();
        for (int n = 1; n <= 60; n++) {
            due(x.feed('a'), n);
        }
        due(x.feed('a'), FULL);
        due(x.feed('a'), FULL);
        due(x.count(2), 60);
    }

    /** "of several the first as the call's words name them": BAD, then FULL. */
    static void p08BadAheadOfFull() {
        LockStaircase x = new LockStaircase();
        for (int n = 1; n <= 60; n++) {
            x.feed('a');
        }
        due(x.feed(31), BAD);
        due(x.feed(127), BAD);
    }

    /** "nothing changes but where it is told": a byte that is BAD or FULL does not come. */
    static void p08RefusedChangesNothing() {
        LockStaircase x = new LockStaircase();
        String text = "aaaa+000,bbbb+000,cccc+000,dddd+000,eeee+000,fff+000,ggg+002";
        due(text.length(), 60);
        for (int i = 0; i < 60; i++) {
            due(x.feed(127), BAD);
            due(x.feed(text.charAt(i)), i + 1);
        }
        due(x.feed(','), FULL);
        due(x.boats(), 7);
        due(x.boat(6, 3), 2);
    }
}
