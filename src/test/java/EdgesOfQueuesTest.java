/** The boundary cases of promises 18 to 23: queues, orders, the best one, rules, runs, the keeper's rule. */
public final class EdgesOfQueuesTest extends Edges {
    public static void main(String[] args) {
        runAll(EdgesOfQueuesTest.class, 18, 23);
    }

    /** Who went through the one lock of a canal: the numbers of those boats as figures, behind a 9. */
    private static int wentThrough(LockStaircase x) {
        int figures = 9;
        for (int boat = 0; boat < x.count(1); boat++) {
            if (x.boat(boat, 2) == x.boat(boat, 3)) {
                figures = figures * 10 + boat;
            }
        }
        return figures;
    }

    /** "BAD: lock". */
    static void p18NoSuchLock() {
        LockStaircase x = new LockStaircase();
        due(x.queue(-1, -1), BAD);
        due(x.queue(2, -1), BAD);
        due(x.queue(LEAST_INT, 0), BAD);
        due(x.queue(MOST_INT, 0), BAD);
        x.locks(6);
        due(x.queue(6, -1), BAD);
        due(x.queue(5, -1), 0);
    }

    /** "BAD: .. i below -2" */
    static void p18BelowMinusTwo() {
        LockStaircase x = canal(1, "a+000,b-001");
        due(x.queue(0, -3), BAD);
        due(x.queue(0, LEAST_INT), BAD);
        due(x.queue(0, -2), 1);
        due(x.queue(0, -1), 1);
    }

    /** "of several the first as the call's words name them": BAD, then NOT. */
    static void p18BadAheadOfNot() {
        LockStaircase x = new LockStaircase();
        due(x.queue(2, 0), BAD);
        due(x.queue(2, 12), BAD);
        due(x.queue(0, 0), NOT);
    }

    /** "How many BOATS are in the QUEUES": none, and no first one. */
    static void p18EmptyQueues() {
        LockStaircase x = canal(2, "a-000,b+002,c+001,d-002");
        due(x.queue(0, -1), 0);
        due(x.queue(0, -2), 0);
        due(x.queue(0, 0), NOT);
        due(x.queue(0, 20), NOT);
    }

    /** "queue(): 12 .. 19: NOT." The twelfth of the one below is 11. */
    static void p18TwelveBelow() {
        LockStaircase x = canal(1, "a+000,b+000,c+000,d+000,e+000,f+000,g+000,h+000,i+000,j+000");
        tell(x, "k+000,l+000");
        due(x.queue(0, -1), 12);
        due(x.queue(0, -2), 0);
        due(x.queue(0, 11), 11);
        for (int i = 12; i <= 20; i++) {
            due(x.queue(0, i), NOT);
        }
    }

    /** "above (20 ..)": the twelfth is 31. */
    static void p18TwelveAbove() {
        LockStaircase x = canal(1, "a-001,b-001,c-001,d-001,e-001,f-001,g-001,h-001,i-001,j-001");
        tell(x, "k-001,l-001");
        due(x.queue(0, -2), 12);
        due(x.queue(0, -1), 0);
        due(x.queue(0, 0), NOT);
        for (int i = 12; i <= 19; i++) {
            due(x.queue(0, i), NOT);
        }
        due(x.queue(0, 20), 0);
        due(x.queue(0, 31), 11);
        due(x.queue(0, 32), NOT);
        due(x.queue(0, MOST_INT), NOT);
    }

    /** "the i-th of the one below (0 ..)": NOT behind the last one, in either. */
    static void p18BehindTheLast() {
        LockStaircase x = canal(1, "a+000,b+000,c-001");
        due(x.queue(0, 1), 1);
        due(x.queue(0, 2), NOT);
        due(x.queue(0, 20), 2);
        due(x.queue(0, 21), NOT);
    }

    /** "below BOATS of its REACH below whose WAY is up, above those of its REACH above whose WAY is down" */
    static void p18ReachesAndWays() {
        LockStaircase x = canal(2, "a+000,b-000,c+001,d-001,e+002,f-002");
        due(x.queue(0, -1), 1);
        due(x.queue(0, 0), 0);
        due(x.queue(0, -2), 1);
        due(x.queue(0, 20), 3);
        due(x.queue(1, -1), 1);
        due(x.queue(1, 0), 2);
        due(x.queue(1, -2), 1);
        due(x.queue(1, 20), 5);
        x.about(3);
        due(x.queue(0, -2), 0);
        due(x.queue(1, -1), 2);
    }

    /** "in each the greatest RANK is first": 9 down to 0. */
    static void p18GreatestRankFirst() {
        LockStaircase x = canal(1, "a+000,b+010,c+090,d-011,e-091,f-001");
        due(x.queue(0, 0), 2);
        due(x.queue(0, 1), 1);
        due(x.queue(0, 2), 0);
        due(x.queue(0, 20), 4);
        due(x.queue(0, 21), 3);
        due(x.queue(0, 22), 5);
    }

    /** "in each the greatest RANK is first": whichever the order of their NAMES. */
    static void p18RanksAmongNames() {
        LockStaircase x = canal(1, "a+050,b+030,c+040,d+090,e+000,f+030");
        int[] boats = {3, 0, 2, 1, 5, 4};
        for (int i = 0; i < boats.length; i++) {
            due(x.queue(0, i), boats[i]);
        }
    }

    /** "of alike ones the least NAME", "one that another begins with ahead of that (.. in QUEUES ..)" */
    static void p18LeastNameOfAlikeRanks() {
        LockStaircase x = canal(1, "b+050,ab+050,a+050,abc+050,c+060");
        due(x.queue(0, 0), named(x, "c"));
        due(x.queue(0, 1), named(x, "a"));
        due(x.queue(0, 2), named(x, "ab"));
        due(x.queue(0, 3), named(x, "abc"));
        due(x.queue(0, 4), named(x, "b"));
    }

    /** "BAD": the LOCK. */
    static void p19NoSuchLock() {
        LockStaircase x = new LockStaircase();
        due(x.orders(-1), BAD);
        due(x.orders(2), BAD);
        due(x.orders(LEAST_INT), BAD);
        due(x.orders(MOST_INT), BAD);
        x.locks(6);
        due(x.orders(6), BAD);
        due(x.orders(5), 1);
    }

    /** "With no BOATS in either QUEUE there is one ORDER, that of none: it is good" */
    static void p19OrderOfNone() {
        LockStaircase x = new LockStaircase();
        due(x.orders(0), 1);
        x.reach(1, 1, 500);
        x.reach(0, 2, 500);
        due(x.orders(0), 1);
    }

    /** "woven to one, each in its own order": one side alone is one ORDER. */
    static void p19OneSideAlone() {
        LockStaircase x = canal(1, "a+000,b+000,c+000");
        due(x.orders(0), 1);
        x.locks(1);
        tell(x, "a-001,b-001,c-001");
        due(x.orders(0), 1);
    }

    /** "an ORDER is good, if no PASSAGE by it, one after the other, is BARRED": none is, where one BOAT cannot go. */
    static void p19NoneIsGood() {
        LockStaircase x = canal(1, "a+000,b-001");
        x.reach(1, 1, 481);
        due(x.orders(0), 0);
        x.reach(1, 1, 480);
        due(x.orders(0), 1);
        x.reach(1, 1, 461);
        due(x.orders(0), 1);
        x.reach(1, 1, 460);
        due(x.orders(0), 2);
    }

    /** "one after the other": each ORDER from the LOCK, its PONDS and its REACHES as they are now. */
    static void p19EachFromNow() {
        LockStaircase x = canal(1, "a+000,b-001");
        x.lock(0, 1, 2);
        // a b spends 20; b a 30, as the ponds hold nothing before b.
        x.reach(1, 0, 29);
        due(x.orders(0), 1);
        x.reach(1, 0, 30);
        due(x.orders(0), 2);
    }

    /** "(6 BOATS in each at most are looked at, the first ones)": a seventh from below is not. */
    static void p19SeventhFromBelow() {
        LockStaircase x = canal(1, "a+000,b+000,c+000,d+000,e+000,f+000,g+000");
        x.reach(1, 1, 381);
        due(x.orders(0), 0);
        x.reach(1, 1, 380);
        due(x.orders(0), 1);
        tell(x, "z-001");
        // Ahead of all z takes a seventh filling, behind any other none.
        due(x.orders(0), 6);
        x.reach(1, 1, 0);
        due(x.orders(0), 7);
    }

    /** "(6 BOATS in each at most are looked at, the first ones)": a seventh from above is not. */
    static void p19SeventhFromAbove() {
        LockStaircase x = canal(1, "a-001,b-001,c-001,d-001,e-001,f-001,g-001");
        x.reach(0, 2, 619);
        due(x.orders(0), 0);
        x.reach(0, 2, 620);
        due(x.orders(0), 1);
        tell(x, "z+000");
        x.reach(0, 2, 9999);
        due(x.orders(0), 7);
    }

    /** "(6 BOATS in each at most ..)": twelve together. */
    static void p19SixOfEach() {
        LockStaircase x = canal(1, "a+000,b+000,c+000,d+000,e+000,f+000");
        tell(x, "g-001,h-001,i-001,j-001,k-001,l-001");
        due(x.orders(0), 924);
    }

    /** "what is in thought tells neither": nothing is done by it. */
    static void p19InThought() {
        LockStaircase x = canal(1, "a+000,b-001");
        x.reach(1, 1, 470);
        String before = picture(x);
        due(x.orders(0), 1);
        holds(picture(x).equals(before));
        due(x.why(0), NOT);
    }

    /** "VOID: BAD (lock ..)" */
    static void p20NoSuchLock() {
        LockStaircase x = new LockStaircase();
        due(x.best(-1, -1), VOID);
        due(x.best(2, -1), VOID);
        due(x.best(LEAST_INT, 0), VOID);
        due(x.best(MOST_INT, 0), VOID);
        x.locks(6);
        due(x.best(6, -1), VOID);
        due(x.best(5, -1), 0);
    }

    /** "VOID: BAD (.. i below -1)", ahead of what there is none of. */
    static void p20BelowMinusOne() {
        LockStaircase x = canal(1, "a+000");
        due(x.best(0, -2), VOID);
        due(x.best(0, LEAST_INT), VOID);
        x.reach(1, 1, 500);
        due(x.best(0, -2), VOID);
        due(x.best(1, 0), VOID);
    }

    /** "that of none: it is good, BEST of it is 0": it has no i-th. */
    static void p20OrderOfNone() {
        LockStaircase x = new LockStaircase();
        due(x.best(0, -1), 0);
        due(x.best(0, 0), NONE);
        due(x.best(0, MOST_INT), NONE);
    }

    /** "-2000001: no ORDER is good" */
    static void p20NoneIsGood() {
        LockStaircase x = canal(1, "a+000");
        x.reach(1, 1, 481);
        due(x.best(0, -1), NONE);
        due(x.best(0, 0), NONE);
        x.reach(1, 1, 480);
        due(x.best(0, -1), 20);
        due(x.best(0, 0), 0);
    }

    /** "-2000001: .. no i-th" */
    static void p20BehindTheLast() {
        LockStaircase x = canal(1, "a+000,b-001");
        due(x.best(0, 1), 1);
        due(x.best(0, 2), NONE);
        due(x.best(0, MOST_INT), NONE);
    }

    /** "(6 BOATS in each at most are looked at, the first ones)": a seventh is no i-th. */
    static void p20SeventhIsNotLookedAt() {
        LockStaircase x = canal(1, "a+000,b+000,c+000,d+000,e+000,f+000,g+010");
        due(x.best(0, -1), 120);
        due(x.best(0, 0), 6);
        due(x.best(0, 5), 4);
        due(x.best(0, 6), NONE);
        x.locks(1);
        tell(x, "a-001,b-001,c-001,d-001,e-001,f-001,g-001");
        due(x.best(0, -1), 120);
        due(x.best(0, 5), 5);
        due(x.best(0, 6), NONE);
    }

    /** "(6 BOATS in each at most ..)": the twelfth is there, a thirteenth is not. */
    static void p20SixOfEach() {
        LockStaircase x = canal(1, "a+000,b+000,c+000,d+000,e+000,f+000");
        tell(x, "g-001,h-001,i-001,j-001,k-001,l-001");
        due(x.best(0, -1), 120);
        for (int i = 0; i < 12; i++) {
            due(x.best(0, i), i % 2 == 0 ? i / 2 : 6 + i / 2);
        }
        due(x.best(0, 12), NONE);
    }

    /** "of several the first by rows (a BOAT from below ahead of one from above)": whichever its NAME, its RANK. */
    static void p20FirstByRows() {
        LockStaircase x = canal(1, "z+000,a-091");
        makeFull(x, 0);
        due(x.orders(0), 2);
        due(x.best(0, -1), 20);
        due(x.best(0, 0), named(x, "z"));
        due(x.best(0, 1), named(x, "a"));
    }

    /** "the good one with least SPENT together": ahead of one that is first by rows. */
    static void p20LeastSpent() {
        LockStaircase x = canal(1, "a+000,b-001,c-001");
        makeFull(x, 0);
        // b leaves the lock empty for a, a full for c: 20. By a b c, and by b c a, it is filled twice.
        due(x.best(0, -1), 20);
        due(x.best(0, 0), 1);
        due(x.best(0, 1), 0);
        due(x.best(0, 2), 2);
    }

    /** "the good one with least SPENT": one that is not good is none, though less would be spent by it. */
    static void p20LeastOfTheGoodOnes() {
        LockStaircase x = canal(1, "a+900,b-901");
        x.lock(0, 0, 1);
        x.reach(1, 1, 490);
        due(x.orders(0), 2);
        due(x.best(0, -1), 1);
        due(x.best(0, 0), 0);
        // a first would take the reach above down to 490, before b gives 9 back.
        x.reach(1, 1, 491);
        due(x.orders(0), 1);
        due(x.best(0, -1), 2);
        due(x.best(0, 0), 1);
        due(x.best(0, 1), 0);
    }

    /** "SPENT .. (may be below 0)" */
    static void p20BelowNought() {
        LockStaircase x = canal(1, "a-901");
        makeFull(x, 0);
        due(x.best(0, -1), -9);
    }

    /** "what is in thought tells neither": nothing is done by it. */
    static void p20InThought() {
        LockStaircase x = canal(1, "a+000,b-001");
        x.reach(1, 1, 470);
        String before = picture(x);
        due(x.best(0, 1), 1);
        holds(picture(x).equals(before));
        due(x.why(0), NOT);
    }

    /** "VOID: BAD": the LOCK. */
    static void p21NoSuchLock() {
        LockStaircase x = new LockStaircase();
        due(x.ruled(-1, 0, 0), VOID);
        due(x.ruled(2, 0, 0), VOID);
        due(x.ruled(LEAST_INT, 0, 0), VOID);
        due(x.ruled(MOST_INT, 0, 0), VOID);
        x.locks(6);
        due(x.ruled(6, 0, 0), VOID);
        due(x.ruled(5, 0, 0), 0);
    }

    /** "VOID: BAD": RULES are 0 .. 3. */
    static void p21NoSuchRule() {
        LockStaircase x = new LockStaircase();
        due(x.ruled(0, -1, 0), VOID);
        due(x.ruled(0, 4, 0), VOID);
        due(x.ruled(0, LEAST_INT, 0), VOID);
        due(x.ruled(0, MOST_INT, 0), VOID);
        for (int rule = 0; rule <= 3; rule++) {
            due(x.ruled(0, rule, 0), 0);
        }
    }

    /** "SPENT together (what 0), .. (1), .. (2; 1, 0). VOID: BAD": no other what. */
    static void p21NoSuchWhat() {
        LockStaircase x = new LockStaircase();
        due(x.ruled(0, 0, -1), VOID);
        due(x.ruled(0, 0, 3), VOID);
        due(x.ruled(0, 0, LEAST_INT), VOID);
        due(x.ruled(0, 0, MOST_INT), VOID);
    }

    /** "as long as there is one in either QUEUE": there is none. */
    static void p21NoneWaits() {
        LockStaircase x = canal(2, "a-000,b+001,c+002");
        makeFull(x, 0);
        for (int rule = 0; rule <= 3; rule++) {
            due(x.ruled(0, rule, 0), 0);
            due(x.ruled(0, rule, 1), 0);
            due(x.ruled(0, rule, 2), 1);
        }
    }

    /** "RUN by a RULE: .. till .. one is BARRED": at once. */
    static void p21BarredAtOnce() {
        LockStaircase x = canal(1, "a+000,b-001");
        x.reach(1, 1, 481);
        for (int rule = 0; rule <= 3; rule++) {
            due(x.ruled(0, rule, 0), 0);
            due(x.ruled(0, rule, 1), 0);
            due(x.ruled(0, rule, 2), 0);
        }
    }

    /** "SPENT together: of the PASSAGES that were done." */
    static void p21SpentOfThoseThatWereDone() {
        LockStaircase x = canal(1, "a+300,b+200,c+100");
        x.reach(1, 1, 455);
        due(x.ruled(0, 2, 1), 2);
        due(x.ruled(0, 2, 0), 45);
        x.reach(1, 1, 456);
        due(x.ruled(0, 2, 1), 1);
        due(x.ruled(0, 2, 0), 23);
    }

    /** "whether the LOCK is FULL behind it (2; 1, 0)" */
    static void p21FullBehindIt() {
        LockStaircase x = canal(1, "a+000,b-001");
        due(x.ruled(0, 2, 2), 0);
        x.leaves(1);
        due(x.ruled(0, 2, 2), 1);
        due(x.ofLock(0, 3), 0);
        tell(x, "b-091");
        due(x.ruled(0, 1, 2), 1);
    }

    /** "RULES look at whole QUEUES, ORDERS at six of each." */
    static void p21WholeQueues() {
        LockStaircase x = canal(1, "a+000,b+000,c+000,d+000,e+000,f+000,g+000,h+000,i+000,j+000");
        tell(x, "k+000,l+000");
        for (int rule = 0; rule <= 3; rule++) {
            due(x.ruled(0, rule, 1), 12);
            due(x.ruled(0, rule, 0), 240);
        }
        x.locks(1);
        tell(x, "a-001,b-001,c-001,d-001,e-001,f-001,g-001,h-001,i-001,j-001");
        tell(x, "k-001,l-001");
        for (int rule = 0; rule <= 3; rule++) {
            due(x.ruled(0, rule, 1), 12);
        }
    }

    /** "SPENT .. (may be below 0)" */
    static void p21BelowNought() {
        LockStaircase x = canal(1, "a-901");
        makeFull(x, 0);
        due(x.ruled(0, 0, 0), -9);
    }

    /** "in thought", "what is in thought tells neither" */
    static void p21InThought() {
        LockStaircase x = canal(1, "a+000,b-001");
        x.reach(1, 1, 470);
        String before = picture(x);
        due(x.ruled(0, 1, 1), 2);
        tell(x, "b-091");
        due(x.ruled(0, 1, 1), 1);
        tell(x, "b-001");
        holds(picture(x).equals(before));
        due(x.why(0), NOT);
    }

    /** "BAD": the LOCK. */
    static void p22NoSuchLock() {
        LockStaircase x = new LockStaircase();
        due(x.run(-1, 0), BAD);
        due(x.run(2, 0), BAD);
        due(x.run(LEAST_INT, 0), BAD);
        due(x.run(MOST_INT, 0), BAD);
        x.locks(6);
        due(x.run(6, 0), BAD);
        due(x.run(5, 0), 0);
    }

    /** "BAD": RULES are 0 .. 3. */
    static void p22NoSuchRule() {
        LockStaircase x = canal(1, "a+000");
        due(x.run(0, -1), BAD);
        due(x.run(0, 4), BAD);
        due(x.run(0, LEAST_INT), BAD);
        due(x.run(0, MOST_INT), BAD);
        due(x.boat(0, 3), 0);
        due(x.run(0, 3), 1);
    }

    /** "as long as there is one in either QUEUE": there is none. */
    static void p22NoneWaits() {
        LockStaircase x = canal(1, "a-000,b+001");
        for (int rule = 0; rule <= 3; rule++) {
            due(x.run(0, rule), 0);
        }
        due(x.count(3), 0);
        due(x.why(0), NOT);
    }

    /** "till none is left": a QUEUE of twelve, whole. */
    static void p22TillNoneIsLeft() {
        LockStaircase x = canal(1, "a+000,b+000,c+000,d+000,e+000,f+000,g+000,h+000,i+000,j+000");
        tell(x, "k+000,l+000");
        due(x.run(0, 0), 12);
        due(x.ofReach(1, 4), 12);
        due(x.count(3), 12);
        due(x.ofReach(1, 0), 260);
    }

    /** "or one is BARRED": those ahead of it went, it and those behind it stand. */
    static void p22TillOneIsBarred() {
        LockStaircase x = canal(1, "a+000,b+000,c+000,d-001");
        x.reach(1, 1, 460);
        due(x.run(0, 2), 2);
        due(wentThrough(x), 901);
        cause(x, 0, 2, 1, 1);
        due(x.count(3), 2);
        due(x.run(0, 2), 0);
        due(x.run(0, 1), 0);
        due(x.run(0, 3), 1);
        due(wentThrough(x), 9013);
    }

    /** "0 by turns, one from below first" */
    static void p22ByTurnsFromBelowFirst() {
        LockStaircase x = canal(1, "y+000,z+000,a-091,b-091");
        // Of one filling, but one from below and then one from above can go.
        x.reach(1, 1, 480);
        due(x.run(0, 0), 2);
        due(wentThrough(x), 902);
        due(x.run(0, 0), 0);
    }

    /** "(from the other one, if that QUEUE is empty)": RULE 0 with none below. */
    static void p22ByTurnsWithNoneBelow() {
        LockStaircase x = canal(1, "a-001,b-001");
        due(x.run(0, 0), 2);
        due(wentThrough(x), 901);
    }

    /** "RULE 0: .. once a QUEUE is empty all come from the other one.": from above. */
    static void p22ByTurnsThenFromAbove() {
        LockStaircase x = canal(1, "a+000,b-001,c-001,d-001");
        // a and b by one filling, c and d by one each.
        x.reach(1, 1, 441);
        due(x.run(0, 0), 3);
        due(wentThrough(x), 9012);
        x.reach(1, 1, 440);
        due(x.run(0, 0), 1);
        due(wentThrough(x), 90123);
    }

    /** "RULE 0: .. once a QUEUE is empty all come from the other one.": from below. */
    static void p22ByTurnsThenFromBelow() {
        LockStaircase x = canal(1, "a+000,b+000,c+000,d-001");
        x.reach(1, 1, 460);
        due(x.run(0, 0), 3);
        due(wentThrough(x), 9013);
        x.reach(1, 1, 440);
        due(x.run(0, 0), 1);
        due(wentThrough(x), 90123);
    }

    /** "RULE 0: one from below first, then one from above, and so on": begun anew by each RUN. */
    static void p22ByTurnsBeginsAnew() {
        LockStaircase x = canal(1, "a+000,b-001");
        x.reach(1, 1, 480);
        due(x.run(0, 0), 2);
        tell(x, "c+000,d-001");
        x.reach(1, 1, 460);
        due(x.run(0, 0), 2);
        due(wentThrough(x), 90123);
    }

    /** "1 the greatest RANK": whichever its side, its NAME. */
    static void p22GreatestRank() {
        LockStaircase x = canal(1, "a+050,b-061");
        x.reach(1, 1, 480);
        due(x.run(0, 1), 1);
        due(wentThrough(x), 91);
        x.locks(1);
        tell(x, "b+060,a-051");
        x.reach(1, 1, 480);
        due(x.run(0, 1), 2);
        due(wentThrough(x), 901);
    }

    /** "1 .. of alike ones the least NAME", from above as from below. */
    static void p22LeastNameOfAlikeRanks() {
        LockStaircase x = canal(1, "a+050,b-051");
        x.reach(1, 1, 480);
        due(x.run(0, 1), 2);
        x.locks(1);
        tell(x, "b+050,a-051");
        x.reach(1, 1, 480);
        due(x.run(0, 1), 1);
        due(wentThrough(x), 90);
    }

    /** "one that another begins with ahead of that (.. by RULES)" */
    static void p22NameThatAnotherBeginsWith() {
        LockStaircase x = canal(1, "ab+050,a-051");
        x.reach(1, 1, 480);
        due(x.run(0, 1), 1);
        due(x.boat(named(x, "a"), 3), 0);
        x.locks(1);
        tell(x, "a+050,aa-051");
        x.reach(1, 1, 480);
        due(x.run(0, 1), 2);
    }

    /** "1 the greatest RANK": with one QUEUE empty all come from the other one. */
    static void p22GreatestRankOfOneSide() {
        LockStaircase x = canal(1, "a+010,b+090,c+050");
        x.reach(1, 1, 460);
        due(x.run(0, 1), 2);
        due(wentThrough(x), 912);
        x.locks(1);
        tell(x, "a-011,b-091,c-051");
        x.reach(1, 1, 460);
        due(x.run(0, 1), 2);
        due(wentThrough(x), 912);
    }

    /** "2 all from below first": then those from above. */
    static void p22AllFromBelowFirst() {
        LockStaircase x = canal(1, "y+000,z+000,a-091,b-091");
        x.reach(1, 1, 460);
        due(x.run(0, 2), 3);
        due(wentThrough(x), 9023);
        x.reach(1, 1, 440);
        due(x.run(0, 2), 1);
        due(wentThrough(x), 90123);
    }

    /** "3 as the LOCK stands (EMPTY: from below ..)" */
    static void p22EmptyFromBelow() {
        LockStaircase x = canal(1, "z+000,a-091");
        x.reach(1, 1, 480);
        due(x.run(0, 3), 2);
        due(wentThrough(x), 901);
    }

    /** "3 as the LOCK stands (.. FULL: from above ..)" */
    static void p22FullFromAbove() {
        LockStaircase x = canal(1, "a+090,z-001");
        makeFull(x, 0);
        // z empties the lock, a fills it; a first would have to empty it, and z once more.
        x.reach(0, 2, 520);
        due(x.run(0, 3), 2);
        due(wentThrough(x), 901);
        due(x.ofLock(0, 3), 1);
    }

    /** "3 .. (.. from the other one, if that QUEUE is empty)": EMPTY with none below. */
    static void p22EmptyWithNoneBelow() {
        LockStaircase x = canal(1, "a-001,b-001");
        due(x.run(0, 3), 2);
        due(wentThrough(x), 901);
    }

    /** "3 .. (.. from the other one, if that QUEUE is empty)": FULL with none above. */
    static void p22FullWithNoneAbove() {
        LockStaircase x = canal(1, "a+000,b+000");
        makeFull(x, 0);
        due(x.run(0, 3), 2);
        due(wentThrough(x), 901);
    }

    /** "The QUEUES of a RUN .. are those at its begin: who went through does not come into the other one" */
    static void p22QueuesAtItsBegin() {
        for (int rule = 0; rule <= 3; rule++) {
            LockStaircase x = canal(2, "a+000,b-001,c+001,d-002");
            due(x.ruled(0, rule, 1), 2);
            due(x.run(0, rule), 2);
            due(x.boat(0, 3), 1);
            due(x.boat(1, 3), 0);
            due(x.queue(0, -1), 0);
            due(x.queue(0, -2), 0);
            due(x.queue(1, -1), 2);
        }
    }

    /** "run(), day(), through(), pass() tell THE TALLY and why()" */
    static void p22TellsTallyAndWhy() {
        LockStaircase x = canal(1, "a+500,b+300");
        x.reach(1, 1, 470);
        due(x.run(0, 0), 1);
        due(x.tally(-1, 0), 1);
        due(x.tally(0, 0), 25);
        cause(x, 0, 2, 1, 1);
    }

    /** "BAD": the LOCK. */
    static void p23NoSuchLock() {
        LockStaircase x = new LockStaircase();
        due(x.keeper(-1), BAD);
        due(x.keeper(2), BAD);
        due(x.keeper(LEAST_INT), BAD);
        due(x.keeper(MOST_INT), BAD);
        x.locks(6);
        due(x.keeper(6), BAD);
        due(x.keeper(5), 0);
    }

    /** "of several the least": all are alike, with none that waits, or by none of which one is done. */
    static void p23AllAlike() {
        LockStaircase x = canal(1, "");
        due(x.keeper(0), 0);
        tell(x, "a+000,b-091");
        x.reach(1, 1, 481);
        due(x.keeper(0), 0);
    }

    /** "of those by which most PASSAGES are done": though less is SPENT by another. */
    static void p23MostDone() {
        LockStaircase x = canal(1, "u+900,d-991");
        makeFull(x, 0);
        // u first is barred below; d first lets 20 in and takes 9 up, so that u can go by the same room.
        x.reach(0, 2, 520);
        due(x.ruled(0, 0, 1), 0);
        due(x.ruled(0, 0, 0), 0);
        due(x.ruled(0, 1, 1), 2);
        due(x.ruled(0, 1, 0), 20);
        due(x.keeper(0), 1);
    }

    /** "The RULE by which SPENT of a LOCK together is least", of those alike by PASSAGES. */
    static void p23LeastSpent() {
        LockStaircase x = canal(1, "a-091,b+050,c-001");
        makeFull(x, 0);
        due(x.ruled(0, 0, 0), 40);
        due(x.ruled(0, 1, 0), 20);
        due(x.ruled(0, 2, 0), 40);
        due(x.ruled(0, 3, 0), 20);
        due(x.keeper(0), 1);
    }

    /** "of several the least": each RULE may be the one. */
    static void p23EachRule() {
        LockStaircase x = canal(1, "a+000,b-091");
        due(x.keeper(0), 0);
        x = canal(1, "a+010,b+900,c-991,d-991");
        x.lock(0, 0, 1);
        x.reach(1, 2, 507);
        due(x.keeper(0), 2);
        x = canal(1, "a-091,b+050,c-091");
        makeFull(x, 0);
        due(x.keeper(0), 3);
    }

    /** "what is in thought tells neither": nothing is done by it. */
    static void p23InThought() {
        LockStaircase x = canal(1, "a+000,b-091");
        x.reach(1, 1, 470);
        String before = picture(x);
        due(x.keeper(0), 0);
        holds(picture(x).equals(before));
        due(x.why(0), NOT);
    }
}
