/** The boundary cases of promises 27 to 34: water, levels, the tally, the account, the image, counts. */
public final class EdgesOfAccountsTest extends Edges {
    private static final long LEAST = Long.MIN_VALUE, MOST = Long.MAX_VALUE;

    public static void main(String[] args) {
        runAll(EdgesOfAccountsTest.class, 27, 34);
    }

    /** "WATER of all REACHES": none, and the most of seven. */
    static void p27WaterOfAllReaches() {
        LockStaircase x = canal(6, "");
        due(x.water(), 3500);
        for (int reach = 0; reach <= 6; reach++) {
            x.reach(reach, 0, 9999);
        }
        due(x.water(), 69993);
        x.locks(1);
        due(x.water(), 1000);
        x.reach(0, 0, 0);
        x.reach(1, 0, 0);
        due(x.water(), 0);
    }

    /** "LOCKFULS of all FULL ones": none of an EMPTY one. */
    static void p27LockfulsOfFullOnes() {
        LockStaircase x = canal(2, "");
        x.lock(0, 0, 99);
        x.lock(1, 0, 1);
        due(x.water(), 1500);
        makeFull(x, 0);
        x.reach(1, 0, 500);
        due(x.water(), 1599);
        makeFull(x, 1);
        x.reach(2, 0, 500);
        due(x.water(), 1600);
    }

    /** "HELD of all": of an EMPTY one whose PONDS hold. */
    static void p27HeldOfAll() {
        LockStaircase x = canal(2, "");
        for (int lock = 0; lock < 2; lock++) {
            x.lock(lock, 0, 99);
            x.lock(lock, 1, 3);
            makeFull(x, lock);
            makeEmpty(x, lock);
        }
        for (int reach = 0; reach <= 2; reach++) {
            x.reach(reach, 0, 0);
        }
        due(x.water(), 59 + 59);
    }

    /** "BAD: i below -1." */
    static void p28BelowMinusOne() {
        LockStaircase x = new LockStaircase();
        due(x.levels(-2), BAD);
        due(x.levels(LEAST_INT), BAD);
        due(x.levels(-1), 1);
    }

    /** "NOT: none such." */
    static void p28NoneSuch() {
        LockStaircase x = new LockStaircase();
        due(x.levels(1), NOT);
        x.reach(0, 0, 700);
        due(x.levels(1), 700);
        due(x.levels(2), NOT);
        due(x.levels(MOST_INT), NOT);
    }

    /** "Unlike WATERS of REACHES": alike ones are one. */
    static void p28AlikeOnesAreOne() {
        LockStaircase x = canal(6, "");
        due(x.levels(-1), 1);
        due(x.levels(0), 500);
        x.reach(6, 0, 499);
        x.reach(0, 0, 499);
        x.reach(3, 0, 501);
        due(x.levels(-1), 3);
        due(x.levels(0), 499);
        due(x.levels(1), 500);
        due(x.levels(2), 501);
    }

    /** "Unlike WATERS of REACHES": seven, the most there can be. */
    static void p28Seven() {
        LockStaircase x = canal(6, "");
        for (int reach = 0; reach <= 6; reach++) {
            x.reach(reach, 0, 6 - reach);
        }
        due(x.levels(-1), 7);
        for (int i = 0; i <= 6; i++) {
            due(x.levels(i), i);
        }
        due(x.levels(7), NOT);
    }

    /** "WATER (0 .. 9999 ..)": both ends are told, the least first. */
    static void p28NoughtAnd9999() {
        LockStaircase x = canal(1, "");
        x.reach(0, 0, 9999);
        x.reach(1, 0, 0);
        due(x.levels(-1), 2);
        due(x.levels(0), 0);
        due(x.levels(1), 9999);
        x.reach(0, 0, 0);
        due(x.levels(-1), 1);
        x.reach(1, 0, 9999);
        due(x.levels(-1), 2);
        due(x.levels(0), 0);
        due(x.levels(1), 9999);
    }

    /** "Unlike WATERS of REACHES": of those that are there. */
    static void p28ReachesThatAreThere() {
        LockStaircase x = canal(6, "");
        x.reach(6, 0, 7);
        x.locks(1);
        due(x.levels(-1), 1);
        x.reach(1, 0, 8);
        due(x.levels(-1), 2);
        due(x.levels(0), 8);
    }

    /** "a what that is none is refused, too", "VOID: BAD what" */
    static void p29NoSuchWhat() {
        LockStaircase x = canal(1, "a+000");
        x.pass(0);
        for (int i = -2; i <= 1; i++) {
            due(x.tally(i, -1), VOID);
            due(x.tally(i, 3), VOID);
            due(x.tally(i, LEAST_INT), VOID);
            due(x.tally(i, MOST_INT), VOID);
        }
    }

    /** "how many unlike SPENTS (i -1, what 0 or 1 ..)" */
    static void p29HowManyUnlike() {
        LockStaircase x = canal(1, "a+000");
        due(x.tally(-1, 0), 0);
        due(x.tally(-1, 1), 0);
        x.pass(0);
        due(x.tally(-1, 0), 1);
        due(x.tally(-1, 1), 1);
        x.about(0);
        x.pass(0);
        x.about(0);
        x.pass(0);
        due(x.tally(-1, 0), 2);
        due(x.tally(-1, 1), 2);
    }

    /** "-2000001: none such.": behind the last one, and below -1. */
    static void p29NoneSuch() {
        LockStaircase x = canal(1, "a+000");
        due(x.tally(0, 0), NONE);
        due(x.tally(0, 1), NONE);
        x.pass(0);
        due(x.tally(0, 0), 20);
        due(x.tally(0, 1), 1);
        due(x.tally(1, 0), NONE);
        due(x.tally(1, 1), NONE);
        due(x.tally(MOST_INT, 0), NONE);
        due(x.tally(-2, 0), NONE);
        due(x.tally(-2, 1), NONE);
        due(x.tally(LEAST_INT, 0), NONE);
    }

    /** "how many PASSAGES SPENT i or less (2 ..)": just so is in, one more is not. */
    static void p29SpentSoMuchOrLess() {
        LockStaircase x = canal(1, "a+000");
        x.pass(0);
        due(x.tally(19, 2), 0);
        due(x.tally(20, 2), 1);
        due(x.tally(21, 2), 1);
        due(x.tally(MOST_INT, 2), 1);
        due(x.tally(LEAST_INT, 2), 0);
    }

    /** "how many PASSAGES SPENT i or less (2, with i -1, too)" */
    static void p29SpentMinusOneOrLess() {
        LockStaircase x = canal(1, "a-101,b-001");
        due(x.tally(-1, 2), 0);
        makeFull(x, 0);
        due(x.pass(0), -1);
        makeFull(x, 0);
        due(x.pass(1), 0);
        due(x.tally(-1, 2), 1);
        due(x.tally(-2, 2), 0);
        due(x.tally(0, 2), 2);
        due(x.tally(-1, 0), 3);
    }

    /** "SPENT .. (may be below 0)": the least and the most there can be, the least first. */
    static void p29LeastAndMostSpent() {
        LockStaircase x = canal(1, "a+900,b-901");
        x.lock(0, 0, 99);
        due(x.pass(0), 108);
        due(x.pass(1), -9);
        due(x.tally(-1, 0), 2);
        due(x.tally(0, 0), -9);
        due(x.tally(1, 0), 108);
        due(x.tally(-10, 2), 0);
        due(x.tally(-9, 2), 1);
        due(x.tally(107, 2), 1);
        due(x.tally(108, 2), 2);
    }

    /** "how often each": of alike ones. */
    static void p29HowOften() {
        LockStaircase x = canal(6, "");
        x.day(4, 0);
        due(x.tally(0, 1), 24);
        due(x.tally(-1, 1), 1);
        x.day(0, 1);
        due(x.tally(0, 1), 6);
        due(x.tally(1, 1), 24);
    }

    /** "OVER (-7): it would be no long": the product, with the greatest that goes. */
    static void p30ProductIsOver() {
        LockStaircase x = new LockStaircase();
        due(x.pays(MOST, 2), OVER);
        due(x.pays(2, MOST), OVER);
        due(x.pays(LEAST, 2), OVER);
        due(x.pays(1L << 32, 1L << 31), OVER);
        due(x.pays(-1L << 32, 1L << 31), 1);
        due(x.account(), LEAST);
    }

    /** "OVER (-7): it would be no long": less the least long. */
    static void p30LessTheLeast() {
        LockStaircase x = new LockStaircase();
        due(x.pays(-1, LEAST), OVER);
        due(x.pays(LEAST, -1), OVER);
        due(x.account(), 0);
        due(x.pays(-1, MOST), 1);
        due(x.pays(-1, 1), 1);
        due(x.account(), LEAST);
        due(x.pays(-1, LEAST), OVER);
        due(x.account(), LEAST);
    }

    /** "OVER (-7): it would be no long": the sum, above the most. */
    static void p30SumAboveTheMost() {
        LockStaircase x = new LockStaircase();
        due(x.pays(1, MOST - 1), 1);
        due(x.pays(1, 2), OVER);
        due(x.pays(1, 1), 1);
        due(x.account(), MOST);
        due(x.pays(1, 1), OVER);
        due(x.pays(MOST, 1), OVER);
        due(x.pays(1, 0), 1);
        due(x.account(), MOST);
    }

    /** "OVER (-7): it would be no long": the sum of two alike, a third of all that bits can tell each. */
    static void p30SumOfTwoAlike() {
        LockStaircase x = new LockStaircase();
        due(x.pays(3, 0x1C71C71C71C71C71L), 1);
        x.pays(2, 1);
        due(x.account(), 0x5555555555555555L);
        due(x.pays(1, 0x5555555555555555L), OVER);
        due(x.account(), 0x5555555555555555L);
    }

    /** "OVER (-7): it would be no long": the sum, below the least. */
    static void p30SumBelowTheLeast() {
        LockStaircase x = new LockStaircase();
        due(x.pays(1, LEAST), 1);
        due(x.account(), LEAST);
        due(x.pays(1, -1), OVER);
        due(x.pays(1, LEAST), OVER);
        due(x.account(), LEAST);
        due(x.pays(1, MOST), 1);
        due(x.account(), -1);
    }

    /** "pays(): first the product, then the sum.": though the sum of both would be a long. */
    static void p30FirstTheProduct() {
        LockStaircase x = new LockStaircase();
        x.pays(1, -10);
        due(x.pays(1L << 62, 2), OVER);
        due(x.pays(LEAST, -1), OVER);
        due(x.account(), -10);
        x.pays(1, 20);
        due(x.pays(-(1L << 62) - 1, 2), OVER);
        due(x.account(), 10);
    }

    /** "nothing changes but where it is told": nought times whatever changes nothing either. */
    static void p30Nought() {
        LockStaircase x = new LockStaircase();
        x.pays(3, 5);
        due(x.pays(0, LEAST), 1);
        due(x.pays(LEAST, 0), 1);
        due(x.pays(0, MOST), 1);
        due(x.pays(0, 0), 1);
        due(x.account(), 15);
    }

    /** "THE ACCOUNT is a long (0 at first)." */
    static void p31NoughtAtFirst() {
        LockStaircase x = new LockStaircase();
        due(x.account(), 0);
        x.pays(-1, 1);
        due(x.account(), -1);
    }

    /** "THE ACCOUNT is a long": the most and the least of all. */
    static void p31MostAndLeast() {
        LockStaircase x = new LockStaircase();
        x.pays(MOST, 1);
        due(x.account(), MOST);
        x = new LockStaircase();
        x.pays(LEAST, 1);
        due(x.account(), LEAST);
    }

    /** "THE IMAGE is taken: how many BOATS.": none, and twelve. */
    static void p32NoneAndTwelve() {
        LockStaircase x = canal(1, "");
        due(x.image(), 0);
        tell(x, "a+000,b+000,c+000,d+000,e+000,f+000,g+000,h+000,i+000,j+000");
        tell(x, "k+000,l+900");
        due(x.image(), 12);
        x.locks(1);
        due(x.undo(), 12);
        due(x.boat(11, 0), 9);
    }

    /** "THE IMAGE is taken": the latest one counts, and it changes nothing. */
    static void p32TheLatest() {
        LockStaircase x = canal(1, "a+000,b+000");
        due(x.image(), 2);
        x.leaves(0);
        String before = picture(x);
        due(x.image(), 1);
        holds(picture(x).equals(before));
        x.leaves(0);
        due(x.undo(), 1);
        holds(picture(x).equals(before));
    }

    /** "THE IMAGE": what comes behind it does not change it. */
    static void p32StaysAsItWasTaken() {
        LockStaircase x = canal(1, "a+000");
        String before = picture(x);
        x.image();
        x.pass(0);
        x.reach(0, 0, 3);
        x.pays(1, 1);
        x.undo();
        holds(picture(x).equals(before));
    }

    /** "STATE: there is none." Nothing changes then. */
    static void p33ThereIsNone() {
        LockStaircase x = canal(1, "a+000");
        x.pass(0);
        x.pays(2, 3);
        type(x, "ab");
        String before = picture(x);
        due(x.undo(), STATE);
        holds(picture(x).equals(before));
    }

    /** "All is as THE IMAGE": all that it holds, though all of it became other. */
    static void p33AllIsAsTheImage() {
        LockStaircase x = canal(2, "a+391,bc-262");
        for (int lock = 0; lock < 2; lock++) {
            x.lock(lock, 0, 30 + lock);
            x.lock(lock, 1, 1 + lock);
            makeFull(x, lock);
        }
        makeEmpty(x, 1);
        for (int reach = 0; reach <= 2; reach++) {
            x.reach(reach, 1, 10 + reach);
            x.reach(reach, 2, 900 + reach);
            x.reach(reach, 3, 1 + reach);
        }
        x.feeds(5);
        x.pays(7, 7);
        String before = picture(x);
        due(x.image(), 2);
        due(x.locks(6), 2);
        x.feeds(6);
        tell(x, "c+000,d-006");
        x.through(0);
        x.pays(1, 1);
        due(x.undo(), 2);
        holds(picture(x).equals(before));
    }

    /** "All is as THE IMAGE": LOCKS that were more, or fewer. */
    static void p33LocksOfTheImage() {
        LockStaircase x = canal(6, "");
        x.lock(5, 0, 77);
        makeFull(x, 5);
        x.image();
        x.locks(1);
        due(x.undo(), 0);
        due(x.count(0), 6);
        due(x.ofLock(5, 0), 77);
        due(x.ofLock(5, 3), 1);
        due(x.ofReach(6, 0), 423);
        x.locks(1);
        x.image();
        x.locks(6);
        x.undo();
        due(x.count(0), 1);
        due(x.ofLock(1, 0), BAD);
        due(x.ofReach(2, 0), BAD);
    }

    /** "All is as THE IMAGE": all of THE SUMMIT of six LOCKS, the highest REACH there can be. */
    static void p33HighestReachOfTheImage() {
        LockStaircase x = canal(6, "");
        x.reach(6, 0, 450);
        x.reach(6, 1, 400);
        x.reach(6, 2, 600);
        x.reach(6, 3, 30);
        x.image();
        x.locks(6);
        x.undo();
        due(x.ofReach(6, 0), 450);
        due(x.ofReach(6, 1), 400);
        due(x.ofReach(6, 2), 600);
        due(x.ofReach(6, 3), 30);
    }

    /** "All is as THE IMAGE": more than once, "STATE: there is none" else. */
    static void p33MoreThanOnce() {
        LockStaircase x = canal(1, "a+000");
        x.image();
        for (int time = 0; time < 3; time++) {
            due(x.pass(0), 20);
            due(x.undo(), 1);
            due(x.boat(0, 3), 0);
            due(x.count(3), 0);
        }
    }

    /** "THE IMAGE: .. THE TALLY": it is laid back, too. */
    static void p33TallyOfTheImage() {
        LockStaircase x = canal(1, "a+900,b-001");
        x.lock(0, 0, 99);
        due(x.pass(0), 108);
        x.image();
        due(x.pass(1), 0);
        tell(x, "a+900");
        due(x.pass(0), 108);
        due(x.count(3), 3);
        x.undo();
        due(x.count(3), 1);
        due(x.tally(-1, 0), 1);
        due(x.tally(0, 0), 108);
    }

    /** "THE IMAGE has no why().": what was told behind it stays. */
    static void p33WhyStays() {
        LockStaircase x = canal(1, "a+000,b-001");
        x.reach(1, 1, 500);
        x.image();
        x.undo();
        due(x.why(0), NOT);
        due(x.pass(0), BARRED);
        x.undo();
        cause(x, 0, 2, 1, 1);
        x.image();
        x.reach(1, 1, 0);
        x.reach(0, 2, 500);
        due(x.pass(1), BARRED);
        x.undo();
        cause(x, 0, 1, 0, 2);
    }

    /** "THE IMAGE: LOCKS, REACHES, FEED, LOSSES, BOATS, THE TALLY, THE ACCOUNT.": no TAPE. */
    static void p33TapeStays() {
        LockStaircase x = canal(1, "");
        type(x, "a");
        x.image();
        type(x, "+000");
        x.undo();
        due(x.count(2), 5);
        due(x.boats(), 1);
        x.undo();
        due(x.count(2), 0);
    }

    /** "BAD": counts are 0 .. 5. */
    static void p34NoSuchWhat() {
        LockStaircase x = new LockStaircase();
        due(x.count(-1), BAD);
        due(x.count(6), BAD);
        due(x.count(LEAST_INT), BAD);
        due(x.count(MOST_INT), BAD);
    }

    /** "How many: 0 LOCKS, 1 BOATS, 2 bytes of THE TAPE": the least and the most of each. */
    static void p34LeastAndMost() {
        LockStaircase x = canal(1, "");
        due(x.count(0), 1);
        due(x.count(1), 0);
        due(x.count(2), 0);
        x.locks(6);
        tell(x, "a+000,b+000,c+000,d+000,e+000,f+000,g+000,h+000,i+000,j+000");
        tell(x, "k+000,l+000");
        for (int n = 1; n <= 60; n++) {
            x.feed(' ');
        }
        due(x.count(0), 6);
        due(x.count(1), 12);
        due(x.count(2), 60);
    }

    /** "3 PASSAGES truly done (by THE TALLY)": not one that is BARRED, nor one in thought. */
    static void p34PassagesTrulyDone() {
        LockStaircase x = canal(1, "a+000,b-001,c+000");
        x.reach(1, 1, 480);
        due(x.ruled(0, 0, 1), 2);
        due(x.count(3), 0);
        due(x.run(0, 0), 2);
        due(x.pass(2), BARRED);
        due(x.count(3), 2);
    }

    /** "4 FEED": 0 and 999. */
    static void p34Feed() {
        LockStaircase x = new LockStaircase();
        due(x.count(4), 0);
        x.feeds(999);
        due(x.count(4), 999);
    }

    /** "5 FULL LOCKS": none, and six. */
    static void p34FullLocks() {
        LockStaircase x = canal(6, "");
        due(x.count(5), 0);
        for (int lock = 5; lock >= 0; lock--) {
            makeFull(x, lock);
            due(x.count(5), 6 - lock);
        }
        makeEmpty(x, 0);
        due(x.count(5), 5);
    }
}
