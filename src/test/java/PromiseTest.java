/** For each promise of the document: ordinary inputs, the edges that it names, wrong inputs; worked out by hand. */
public final class PromiseTest {
    private static final int BAD = -1, NOT = -2, FULL = -3, STATE = -5, OVER = -7;
    private static final int VOID = -2000000, NONE = -2000001, BARRED = -2000002;

    public static void main(String[] args) {
        p01New();
        p02Locks();
        p03Lock();
        p04OfLock();
        p05Reach();
        p06OfReach();
        p07Feeds();
        p08Feed();
        p09Boats();
        p09Faults();
        p09FullAndTwice();
        p10Boat();
        p11Find();
        p12Leaves();
        p13About();
        p14Pass();
        p14PassBarred();
        p15Through();
        p16Costs();
        p17Why();
        p17StepBothWays();
        p18Queue();
        p19Orders();
        p20Best();
        p20Sizes();
        p20SixOfEach();
        p21Ruled();
        p22Run();
        p23Keeper();
        p24Day();
        p24DayBarred();
        p25Dry();
        p26Pond();
        p27Water();
        p28Levels();
        p29Tally();
        p30Pays();
        p32Image();
        p33Undo();
        p33UndoOfSix();
        p34Count();
        Check.end("PromiseTest");
    }

    private static void due(String call, long got, long want) {
        Check.due(call, got, want);
    }

    private static void p01New() {
        LockStaircase x = new LockStaircase();
        due("1 locks", x.count(0), 2);
        due("1 boats", x.count(1), 0);
        due("1 tape", x.count(2), 0);
        due("1 passages", x.count(3), 0);
        due("1 feed", x.count(4), 0);
        due("1 full", x.count(5), 0);
        due("1 account", x.account(), 0);
        due("1 why", x.why(0), NOT);
        due("1 undo", x.undo(), STATE);
        for (int lock = 0; lock < 2; lock++) {
            due("1 lockful", x.ofLock(lock, 0), 20);
            due("1 ponds", x.ofLock(lock, 1), 0);
            due("1 held", x.ofLock(lock, 2), 0);
            due("1 full", x.ofLock(lock, 3), 0);
            due("1 share", x.ofLock(lock, 4), 0);
        }
        for (int reach = 0; reach < 3; reach++) {
            due("1 water", x.ofReach(reach, 0), 500);
            due("1 least", x.ofReach(reach, 1), 0);
            due("1 most", x.ofReach(reach, 2), 9999);
            due("1 loss", x.ofReach(reach, 3), 0);
            due("1 in it", x.ofReach(reach, 4), 0);
        }
    }

    private static void p02Locks() {
        LockStaircase x = new LockStaircase();
        due("2 locks(0)", x.locks(0), BAD);
        due("2 locks(7)", x.locks(7), BAD);
        due("2 locks(-1)", x.locks(-1), BAD);
        due("2 locks(6)", x.locks(6), 2);
        due("2 locks(1)", x.locks(1), 6);
        due("2 locks(3)", x.locks(3), 1);
        due("2 count(0)", x.count(0), 3);
        x.lock(1, 0, 33);
        x.lock(1, 1, 2);
        x.reach(2, 0, 300);
        x.reach(2, 1, 100);
        x.reach(2, 2, 400);
        x.reach(2, 3, 9);
        x.feeds(12);
        Check.tell(x, "a+000,b+000");
        due("2 pass", x.pass(0), 20);
        x.reach(0, 2, 500);
        due("2 barred", x.pass(1), BARRED);
        x.pays(3, 4);
        Check.type(x, "xy");
        due("2 locks(3) again", x.locks(3), 3);
        due("2 lockful as at first", x.ofLock(1, 0), 20);
        due("2 ponds as at first", x.ofLock(1, 1), 0);
        due("2 lock 0 is empty", x.ofLock(0, 3), 0);
        due("2 water as at first", x.ofReach(2, 0), 500);
        due("2 least as at first", x.ofReach(2, 1), 0);
        due("2 most as at first", x.ofReach(2, 2), 9999);
        due("2 loss as at first", x.ofReach(2, 3), 0);
        due("2 feed as at first", x.count(4), 0);
        due("2 no boats", x.count(1), 0);
        due("2 the tape stays", x.count(2), 2);
        due("2 the tally stays", x.count(3), 1);
        due("2 the account stays", x.account(), 12);
        due("2 why stays", x.why(2), 0);
        due("2 refused changes nothing", x.locks(9), BAD);
        due("2 count(0) then", x.count(0), 3);
    }

    private static void p03Lock() {
        LockStaircase x = new LockStaircase();
        due("3 lockful", x.lock(0, 0, 99), 20);
        due("3 lockful again", x.lock(0, 0, 1), 99);
        due("3 ponds", x.lock(1, 1, 3), 0);
        due("3 ponds again", x.lock(1, 1, 0), 3);
        due("3 no such lock", x.lock(2, 0, 5), BAD);
        due("3 lock -1", x.lock(-1, 0, 5), BAD);
        due("3 what 2", x.lock(0, 2, 5), BAD);
        due("3 what -1", x.lock(0, -1, 5), BAD);
        due("3 lockful 0", x.lock(0, 0, 0), BAD);
        due("3 lockful 100", x.lock(0, 0, 100), BAD);
        due("3 ponds -1", x.lock(0, 1, -1), BAD);
        due("3 ponds 4", x.lock(0, 1, 4), BAD);
        due("3 unchanged", x.ofLock(0, 0), 1);
        x.lock(0, 0, 20);
        x.lock(0, 1, 2);
        Check.tell(x, "u+000,d-001");
        due("3 up", x.pass(1), 20);
        due("3 full", x.lock(0, 0, 30), STATE);
        due("3 full, bad", x.lock(0, 0, 100), BAD);
        due("3 down", x.pass(0), 0);
        due("3 held", x.ofLock(0, 2), 10);
        due("3 held above 0", x.lock(0, 1, 1), STATE);
        due("3 held above 0, as it is", x.lock(0, 1, 2), STATE);
        due("3 the other one", x.lock(1, 1, 1), 0);
    }

    private static void p04OfLock() {
        LockStaircase x = new LockStaircase();
        x.lock(0, 0, 25);
        x.lock(0, 1, 1);
        due("4 share of one pond is cut", x.ofLock(0, 4), 8);
        x.lock(0, 1, 2);
        due("4 share of two", x.ofLock(0, 4), 12);
        x.lock(0, 1, 3);
        due("4 share of three", x.ofLock(0, 4), 15);
        due("4 lockful", x.ofLock(0, 0), 25);
        due("4 ponds", x.ofLock(0, 1), 3);
        Check.tell(x, "a+000");
        x.pass(0);
        due("4 full", x.ofLock(0, 3), 1);
        due("4 full one holds none", x.ofLock(0, 2), 0);
        x.about(0);
        x.pass(0);
        due("4 empty", x.ofLock(0, 3), 0);
        due("4 held", x.ofLock(0, 2), 15);
        due("4 what -1", x.ofLock(0, -1), BAD);
        due("4 what 5", x.ofLock(0, 5), BAD);
        due("4 lock 2", x.ofLock(2, 0), BAD);
        due("4 lock -1", x.ofLock(-1, 0), BAD);
    }

    private static void p05Reach() {
        LockStaircase x = new LockStaircase();
        due("5 water", x.reach(2, 0, 9999), 500);
        due("5 water 0", x.reach(2, 0, 0), 9999);
        due("5 least above water", x.reach(2, 1, 1), STATE);
        due("5 most at water", x.reach(2, 2, 0), 9999);
        due("5 water above most", x.reach(2, 0, 1), STATE);
        due("5 reach 3", x.reach(3, 0, 1), BAD);
        due("5 reach -1", x.reach(-1, 0, 1), BAD);
        due("5 what 4", x.reach(0, 4, 1), BAD);
        due("5 what -1", x.reach(0, -1, 1), BAD);
        for (int what = 0; what < 4; what++) {
            due("5 too low", x.reach(0, what, -1), BAD);
            due("5 too high", x.reach(0, what, what == 3 ? 100 : 10000), BAD);
        }
        due("5 bad ahead of state", x.reach(2, 0, 10000), BAD);
        due("5 loss", x.reach(0, 3, 99), 0);
        due("5 loss again", x.reach(0, 3, 0), 99);
        due("5 least to the water", x.reach(0, 1, 500), 0);
        due("5 most to the water", x.reach(0, 2, 500), 9999);
        due("5 most below the water", x.reach(0, 2, 499), STATE);
        due("5 least above the water", x.reach(0, 1, 501), STATE);
        due("5 water below least", x.reach(0, 0, 499), STATE);
        due("5 water as it is", x.reach(0, 0, 500), 500);
    }

    private static void p06OfReach() {
        LockStaircase x = new LockStaircase();
        x.reach(1, 0, 321);
        x.reach(1, 1, 21);
        x.reach(1, 2, 621);
        x.reach(1, 3, 7);
        Check.tell(x, "a+001,b-001,c+002");
        due("6 water", x.ofReach(1, 0), 321);
        due("6 least", x.ofReach(1, 1), 21);
        due("6 most", x.ofReach(1, 2), 621);
        due("6 loss", x.ofReach(1, 3), 7);
        due("6 boats of both ways", x.ofReach(1, 4), 2);
        due("6 boats of the summit", x.ofReach(2, 4), 1);
        due("6 boats of the lowest", x.ofReach(0, 4), 0);
        due("6 what 5", x.ofReach(1, 5), BAD);
        due("6 what -1", x.ofReach(1, -1), BAD);
        due("6 reach 3", x.ofReach(3, 0), BAD);
        due("6 reach -1", x.ofReach(-1, 0), BAD);
    }

    private static void p07Feeds() {
        LockStaircase x = new LockStaircase();
        due("7 feeds(999)", x.feeds(999), 0);
        due("7 feeds(1000)", x.feeds(1000), BAD);
        due("7 feeds(-1)", x.feeds(-1), BAD);
        due("7 feeds(0)", x.feeds(0), 999);
        due("7 feeds(5)", x.feeds(5), 0);
        due("7 count(4)", x.count(4), 5);
    }

    private static void p08Feed() {
        LockStaircase x = new LockStaircase();
        due("8 feed(31)", x.feed(31), BAD);
        due("8 feed(127)", x.feed(127), BAD);
        due("8 feed(32)", x.feed(32), 1);
        due("8 feed(126)", x.feed(126), 2);
        for (int n = 3; n <= 60; n++) {
            due("8 feed(97)", x.feed(97), n);
        }
        due("8 the 61st", x.feed(97), FULL);
        due("8 bad ahead of full", x.feed(127), BAD);
        due("8 count(2)", x.count(2), 60);
    }

    private static void p09Boats() {
        LockStaircase x = new LockStaircase();
        due("9 one", Check.tell(x, "abcd+902"), 1);
        due("9 the tape is empty then", x.count(2), 0);
        due("9 more", Check.tell(x, "z-120,abc+341,abcd-052"), 3);
        due("9 count", x.count(1), 3);
        due("9 an old name became so: size", x.boat(1, 0), 0);
        due("9 rank", x.boat(1, 1), 5);
        due("9 way", x.boat(1, 2), 0);
        due("9 reach", x.boat(1, 3), 2);
        due("9 ten in a text", Check.tell(x, "a+000,b+000,c+000,d+000,e+000,f+000,g+000,h+000,i+000,z+000"), 10);
        due("9 count then", x.count(1), 12);
    }

    private static void p09Faults() {
        LockStaircase x = new LockStaircase();
        due("9 empty", x.boats(), -100);
        fault(x, "abcde+000", 4);
        fault(x, "abcd", 4);
        fault(x, "+000", 0);
        fault(x, "A+000", 0);
        fault(x, "a000", 1);
        fault(x, "a+", 2);
        fault(x, "a+0", 3);
        fault(x, "a+00", 4);
        fault(x, "a+x00", 2);
        fault(x, "a+0x0", 3);
        fault(x, "a+00x", 4);
        fault(x, "a+003", 4);
        fault(x, "a+0022", 5);
        fault(x, "a+002,", 6);
        fault(x, "a+002, b+000", 6);
        fault(x, "a+002,b+009", 10);
        fault(x, " a+002", 0);
        fault(x, "a{+002", 1);
        fault(x, "`+002", 0);
        fault(x, "a+:02", 2);
        fault(x, "a+0:2", 3);
        fault(x, "a+00:", 4);
        fault(x, "a+/02", 2);
        x.locks(3);
        due("9 reach 3 is there now", Check.tell(x, "a+003"), 1);
        x.locks(1);
        fault(x, "a+002", 4);
        fault(x, "aaaa+000,bbbb+000,cccc+000,dddd+000,eeee+000,ffff+000,ggggg", 58);
        fault(x, "aaaa+000,bbbb+000,cccc+000,dddd+000,eeee+000,ffff+000,gggg+0", 60);
        due("9 nothing of a faulty text comes", x.count(1), 0);
    }

    private static void fault(LockStaircase x, String text, int at) {
        due("9 fault of " + text, Check.tell(x, text), -100 - at);
        due("9 the tape behind " + text, x.count(2), 0);
    }

    private static void p09FullAndTwice() {
        LockStaircase x = new LockStaircase();
        due("9 told twice, both are told", Check.tell(x, "a+111,a-220"), 2);
        due("9 one boat", x.count(1), 1);
        due("9 the latter counts", x.boat(0, 0), 2);
        due("9 its way, too", x.boat(0, 2), 0);
        Check.tell(x, "b+000,c+000,d+000,e+000,f+000,g+000,h+000,i+000,j+000");
        due("9 eleven", Check.tell(x, "k+000"), 1);
        due("9 thirteen", Check.tell(x, "l+000,a+000,m+000"), FULL);
        due("9 the tape is empty behind FULL", x.count(2), 0);
        due("9 nothing came", x.count(1), 11);
        due("9 nothing became so", x.boat(0, 0), 2);
        due("9 the fault is ahead of FULL", Check.tell(x, "l+000,m+000,n+00"), -116);
        due("9 unlike names are counted", Check.tell(x, "l+000,l+000,k+900,l-000"), 4);
        due("9 twelve", x.count(1), 12);
        due("9 old names at twelve", Check.tell(x, "a+000,l+000"), 2);
    }

    private static void p10Boat() {
        LockStaircase x = new LockStaircase();
        Check.tell(x, "ba+931,b-001,azzz-782");
        due("10 the least name: letters", x.boat(0, 4), 4);
        due("10 a", x.boat(0, 10), 'a');
        due("10 z", x.boat(0, 13), 'z');
        due("10 no fifth", x.boat(0, 14), NOT);
        due("10 size", x.boat(0, 0), 7);
        due("10 rank", x.boat(0, 1), 8);
        due("10 way down", x.boat(0, 2), 0);
        due("10 reach", x.boat(0, 3), 2);
        due("10 one that another begins with is ahead", x.boat(1, 4), 1);
        due("10 b", x.boat(1, 10), 'b');
        due("10 no second letter", x.boat(1, 11), NOT);
        due("10 two letters", x.boat(2, 4), 2);
        due("10 ba", x.boat(2, 11), 'a');
        due("10 size of ba", x.boat(2, 0), 9);
        due("10 way up", x.boat(2, 2), 1);
        due("10 far letter", x.boat(2, Integer.MAX_VALUE), NOT);
        due("10 what 5", x.boat(0, 5), BAD);
        due("10 what 9", x.boat(0, 9), BAD);
        due("10 what -1", x.boat(0, -1), BAD);
        due("10 boat 3", x.boat(3, 0), BAD);
        due("10 boat -1", x.boat(-1, 0), BAD);
        due("10 bad ahead of not", x.boat(3, 14), BAD);
    }

    private static void p11Find() {
        LockStaircase x = new LockStaircase();
        Check.tell(x, "c+000,ab+000,a+000,abcd+000");
        due("11 a", Check.named(x, "a"), 0);
        due("11 ab", Check.named(x, "ab"), 1);
        due("11 abcd", Check.named(x, "abcd"), 2);
        due("11 c", Check.named(x, "c"), 3);
        due("11 abc", Check.named(x, "abc"), NOT);
        due("11 the tape is empty behind NOT", x.count(2), 0);
        due("11 five letters", Check.named(x, "abcde"), NOT);
        due("11 no name", Check.named(x, "a+"), NOT);
        due("11 a blank", Check.named(x, " a"), NOT);
        due("11 nothing", x.find(), NOT);
        due("11 a great letter", Check.named(x, "A"), NOT);
    }

    private static void p12Leaves() {
        LockStaircase x = new LockStaircase();
        due("12 none there", x.leaves(0), BAD);
        Check.tell(x, "a+100,b-211,c+342");
        due("12 boat 3", x.leaves(3), BAD);
        due("12 boat -1", x.leaves(-1), BAD);
        due("12 b goes", x.leaves(1), 2);
        due("12 c is the next", x.boat(1, 10), 'c');
        due("12 its size", x.boat(1, 0), 3);
        due("12 its rank", x.boat(1, 1), 4);
        due("12 its reach", x.boat(1, 3), 2);
        due("12 b is gone", Check.named(x, "b"), NOT);
        due("12 a goes", x.leaves(0), 1);
        due("12 c goes", x.leaves(0), 0);
        due("12 no more", x.leaves(0), BAD);
    }

    private static void p13About() {
        LockStaircase x = new LockStaircase();
        Check.tell(x, "a+100,b-201");
        due("13 down then", x.about(0), 0);
        due("13 its way", x.boat(0, 2), 0);
        due("13 up again", x.about(0), 1);
        due("13 up then", x.about(1), 1);
        due("13 boat 2", x.about(2), BAD);
        due("13 boat -1", x.about(-1), BAD);
    }

    private static void p14Pass() {
        LockStaircase x = new LockStaircase();
        due("14 no boat", x.pass(0), VOID);
        x.lock(0, 0, 25);
        x.lock(0, 1, 2);
        Check.tell(x, "a+300,b-401,c+500");
        // Filled with 25, and 3 more come down against the boat.
        due("14 a up", x.pass(0), 28);
        due("14 reach of a", x.boat(0, 3), 1);
        due("14 above", x.ofReach(1, 0), 472);
        due("14 below", x.ofReach(0, 0), 503);
        due("14 full", x.ofLock(0, 3), 1);
        // Emptied: 12 into the ponds, 13 to the reach below; 4 go up.
        due("14 b down", x.pass(1), -4);
        due("14 above then", x.ofReach(1, 0), 476);
        due("14 below then", x.ofReach(0, 0), 512);
        due("14 held", x.ofLock(0, 2), 12);
        // 12 come out of the ponds, 13 from above.
        due("14 c up", x.pass(2), 18);
        due("14 above behind c", x.ofReach(1, 0), 458);
        due("14 below behind c", x.ofReach(0, 0), 517);
        due("14 none held", x.ofLock(0, 2), 0);
        x.about(1);
        // b stands below the full lock: 12 are saved, 13 let out; then 13 from above, and its 4.
        due("14 b up again", x.pass(1), 17);
        due("14 below behind b", x.ofReach(0, 0), 534);
        due("14 a on", x.pass(0), 23);
        due("14 a is at the top", x.pass(0), NONE);
        x.about(0);
        due("14 a down", x.pass(0), -3);
        due("14 a down on", x.pass(0), -3);
        due("14 a is at the bottom", x.pass(0), NONE);
        due("14 boat 3", x.pass(3), VOID);
        due("14 boat -1", x.pass(-1), VOID);
        due("14 tally", x.count(3), 7);
    }

    private static void p14PassBarred() {
        LockStaircase x = new LockStaircase();
        Check.tell(x, "a+900,b-900");
        x.reach(1, 1, 480);
        // Filled down to 480 exactly, but the boat's 9 would take it below.
        due("14 step 3 above", x.pass(0), BARRED);
        due("14 why lock", x.why(0), 0);
        due("14 why step", x.why(1), 3);
        due("14 why reach", x.why(2), 1);
        due("14 why below", x.why(3), 1);
        due("14 nothing is done: above", x.ofReach(1, 0), 500);
        due("14 nothing is done: lock", x.ofLock(0, 3), 0);
        due("14 nothing is done: boat", x.boat(0, 3), 0);
        due("14 nothing is done: tally", x.count(3), 0);
        x.reach(1, 1, 471);
        x.reach(0, 2, 508);
        due("14 step 3 below", x.pass(0), BARRED);
        due("14 why reach 0", x.why(2), 0);
        due("14 why above most", x.why(3), 2);
        x.reach(0, 2, 509);
        due("14 just so", x.pass(0), 29);
        due("14 b at the bottom", x.pass(1), NONE);
        // Up through the full lock: step 1 lets 20 into the reach below.
        Check.tell(x, "c+000");
        due("14 step 1", x.pass(2), BARRED);
        due("14 why step 1", x.why(1), 1);
        due("14 still full", x.ofLock(0, 3), 1);
        // Step 1 goes, step 2 doesn't: all is laid back.
        x.reach(0, 2, 9999);
        due("14 step 2", x.pass(2), BARRED);
        due("14 why step 2", x.why(1), 2);
        due("14 why reach 1", x.why(2), 1);
        due("14 below is as it was", x.ofReach(0, 0), 509);
        due("14 full as it was", x.ofLock(0, 3), 1);
        due("14 held as it was", x.ofLock(0, 2), 0);
        x.locks(1);
        x.lock(0, 1, 2);
        Check.tell(x, "a+000,b+900");
        x.pass(0);
        x.about(0);
        x.pass(0);
        // 10 come out of the ponds, 10 from above; the boat's 9 don't go.
        x.reach(1, 1, x.ofReach(1, 0) - 18);
        due("14 behind the ponds", x.pass(1), BARRED);
        due("14 why step 3", x.why(1), 3);
        due("14 the ponds hold as they did", x.ofLock(0, 2), 10);
    }

    private static void p15Through() {
        LockStaircase x = new LockStaircase();
        due("15 no boat", x.through(0), BAD);
        x.locks(3);
        Check.tell(x, "a+000,b-003,c+001");
        due("15 all", x.through(0), 3);
        due("15 reach", x.boat(0, 3), 3);
        due("15 no lock its way", x.through(0), 0);
        due("15 b all down", x.through(1), 3);
        due("15 b is at the bottom", x.boat(1, 3), 0);
        due("15 b no more", x.through(1), 0);
        x.reach(3, 1, 461);
        due("15 till it is barred", x.through(2), 1);
        due("15 c stands there", x.boat(2, 3), 2);
        due("15 why", x.why(0), 2);
        due("15 tally", x.count(3), 7);
        due("15 boat 3", x.through(3), BAD);
        due("15 boat -1", x.through(-1), BAD);
    }

    private static void p16Costs() {
        LockStaircase x = new LockStaircase();
        due("16 no boat", x.costs(0), VOID);
        Check.tell(x, "a+500,b-902,c+001");
        due("16 a", x.costs(0), 25);
        due("16 b, filled and given back", x.costs(1), 11);
        due("16 c", x.costs(2), 20);
        due("16 nothing is done", x.count(3), 0);
        due("16 a stands", x.boat(0, 3), 0);
        due("16 water stands", x.ofReach(2, 0), 500);
        x.reach(2, 1, 490);
        due("16 barred at the second lock", x.costs(0), 0);
        due("16 told to none", x.why(0), NOT);
        due("16 tally", x.tally(-1, 0), 0);
        x.reach(2, 1, 0);
        x.pass(2);
        due("16 below 0", x.costs(1), -9);
        due("16 boat 3", x.costs(3), VOID);
        due("16 boat -1", x.costs(-1), VOID);
        x.locks(6);
        Check.tell(x, "a+700");
        x.reach(6, 0, 60);
        x.reach(6, 1, 33);
        due("16 six locks", x.costs(0), 27);
        x.reach(6, 1, 34);
        due("16 six locks, barred at the last", x.costs(0), 0);
    }

    private static void p17Why() {
        LockStaircase x = new LockStaircase();
        due("17 none", x.why(3), NOT);
        due("17 i ahead of none", x.why(4), BAD);
        due("17 i -1", x.why(-1), BAD);
        // Down with 9: filled (2), emptied (1), 9 up (3); the reach below would be below its least.
        Check.tell(x, "a-902,b-902");
        x.reach(1, 0, 3);
        x.reach(1, 1, 3);
        x.lock(1, 0, 1);
        due("17 down", x.pass(0), BARRED);
        due("17 lock", x.why(0), 1);
        due("17 step", x.why(1), 3);
        due("17 reach", x.why(2), 1);
        due("17 below least", x.why(3), 1);
        // In step 3 both would be wrong: the reach above is looked at first.
        x.reach(2, 2, 507);
        due("17 down again", x.pass(0), BARRED);
        due("17 the reach above first", x.why(2), 2);
        due("17 above most", x.why(3), 2);
        x.reach(1, 2, 3);
        due("17 emptied", x.pass(1), BARRED);
        due("17 emptying down is step 1", x.why(1), 1);
        due("17 reach 1", x.why(2), 1);
        due("17 above its most", x.why(3), 2);
        x.reach(2, 1, 500);
        due("17 filled", x.pass(1), BARRED);
        due("17 filling down is step 2", x.why(1), 2);
        due("17 reach 2", x.why(2), 2);
        due("17 below its least", x.why(3), 1);
        x.image();
        x.undo();
        due("17 it stays by undo", x.why(1), 2);
        x.reach(2, 1, 0);
        x.reach(2, 2, 9999);
        x.reach(1, 2, 9999);
        x.reach(1, 1, 0);
        x.reach(1, 0, 20);
        x.pass(0);
        due("17 it stays by a good passage", x.why(1), 2);
        due("17 i 4", x.why(4), BAD);
    }

    /** The same step has the same number both ways, by each call that tells it. */
    private static void p17StepBothWays() {
        LockStaircase x = new LockStaircase();
        x.reach(2, 0, 0);
        due("17 a day down", x.day(0, 1), 0);
        cause("17 filling down by day()", x, 1, 2, 2, 1);
        x = new LockStaircase();
        x.reach(1, 2, 519);
        due("17 a day down, full below", x.day(0, 1), 0);
        cause("17 emptying down by day()", x, 1, 1, 1, 2);
        x = new LockStaircase();
        Check.tell(x, "a-001,b+000,c-002");
        x.reach(1, 0, 19);
        due("17 through, filling down", x.through(0), 0);
        cause("17 filling down by through()", x, 0, 2, 1, 1);
        due("17 pass, filling up", x.pass(1), BARRED);
        cause("17 filling up by pass()", x, 0, 2, 1, 1);
        x.reach(1, 0, 20);
        due("17 b goes up", x.pass(1), 20);
        // Lock 0 is FULL now, so a boat down has no filling: emptying it is still step 1.
        x.reach(0, 2, 519);
        due("17 run, emptying down", x.run(0, 0), 0);
        cause("17 emptying a full lock down by run()", x, 0, 1, 0, 2);
        Check.tell(x, "d+000");
        due("17 pass, emptying up", x.pass(3), BARRED);
        cause("17 emptying a full lock up by pass()", x, 0, 1, 0, 2);
        x.reach(2, 1, 490);
        due("17 run, filling up", x.run(1, 3), 0);
        cause("17 filling up by run()", x, 1, 2, 2, 1);
        x.leaves(1);
        due("17 run, filling down", x.run(1, 3), 0);
        cause("17 filling down by run()", x, 1, 2, 2, 1);
    }

    private static void cause(String about, LockStaircase x, int lock, int step, int reach, int side) {
        due(about + ": lock", x.why(0), lock);
        due(about + ": step", x.why(1), step);
        due(about + ": reach", x.why(2), reach);
        due(about + ": side", x.why(3), side);
    }

    private static void p18Queue() {
        LockStaircase x = new LockStaircase();
        Check.tell(x, "e+031,d+051,c+051,b-091,a+090,f-012,g-032,h+002");
        due("18 below", x.queue(1, -1), 3);
        due("18 above", x.queue(1, -2), 2);
        due("18 the greatest rank, of alike ones the least name", x.queue(1, 0), Check.named(x, "c"));
        due("18 then d", x.queue(1, 1), Check.named(x, "d"));
        due("18 then e", x.queue(1, 2), Check.named(x, "e"));
        due("18 no fourth", x.queue(1, 3), NOT);
        due("18 above g", x.queue(1, 20), Check.named(x, "g"));
        due("18 above f", x.queue(1, 21), Check.named(x, "f"));
        due("18 no third above", x.queue(1, 22), NOT);
        due("18 lock 0 below", x.queue(0, 0), Check.named(x, "a"));
        due("18 lock 0 above", x.queue(0, 20), Check.named(x, "b"));
        due("18 12", x.queue(1, 12), NOT);
        due("18 19", x.queue(1, 19), NOT);
        due("18 far", x.queue(1, Integer.MAX_VALUE), NOT);
        due("18 i -3", x.queue(1, -3), BAD);
        due("18 lock 2", x.queue(2, -1), BAD);
        due("18 lock -1", x.queue(-1, -1), BAD);
        x.locks(1);
        Check.tell(x, "a+000,b+010,c+020,d+030,e+040,f+050,g+060,h+070,i+080,j+090");
        Check.tell(x, "k+000,l+000");
        due("18 twelve below", x.queue(0, -1), 12);
        due("18 the twelfth", x.queue(0, 11), 11);
        due("18 behind them", x.queue(0, 12), NOT);
    }

    private static void p19Orders() {
        LockStaircase x = new LockStaircase();
        due("19 that of none", x.orders(0), 1);
        Check.tell(x, "a+000,b+000,c-001,d-001");
        due("19 two and two", x.orders(0), 6);
        // Each filling draws 20: udud fills twice, dduu four times, each other order three times.
        x.reach(1, 1, 440);
        due("19 three fillings at the most", x.orders(0), 5);
        x.reach(1, 1, 460);
        due("19 two fillings at the most", x.orders(0), 1);
        x.reach(1, 1, 480);
        due("19 one filling", x.orders(0), 0);
        due("19 told to none", x.why(0), NOT);
        due("19 tally", x.count(3), 0);
        due("19 lock 2", x.orders(2), BAD);
        due("19 lock -1", x.orders(-1), BAD);
        x.locks(1);
        Check.tell(x, "a+000,b+000,c+000,d+000,e+000,f+000,g+000");
        due("19 from below alone", x.orders(0), 1);
    }

    private static void p20Best() {
        LockStaircase x = new LockStaircase();
        due("20 that of none", x.best(0, -1), 0);
        due("20 no boat of none", x.best(0, 0), NONE);
        Check.tell(x, "a+000,b+000,c-001,d-001");
        due("20 spent", x.best(0, -1), 40);
        // Each u fills, a d does in an empty lock: udud alone fills but twice.
        due("20 first", x.best(0, 0), 0);
        due("20 second", x.best(0, 1), 2);
        due("20 third", x.best(0, 2), 1);
        due("20 fourth", x.best(0, 3), 3);
        due("20 no fifth", x.best(0, 4), NONE);
        // Each order empties the lock twice at the least.
        x.reach(0, 2, 539);
        due("20 none is good", x.orders(0), 0);
        due("20 none is good, spent", x.best(0, -1), NONE);
        due("20 none is good, a boat", x.best(0, 0), NONE);
        due("20 i -2", x.best(0, -2), VOID);
        due("20 lock 2", x.best(2, -1), VOID);
        due("20 lock -1", x.best(-1, -1), VOID);
        x.locks(1);
        x.lock(0, 1, 2);
        Check.tell(x, "a+000,b+000,c-001,d-001");
        // Ponds save half of each emptied lock: udud 20 + 10.
        due("20 with ponds", x.best(0, -1), 30);
        Check.tell(x, "e+090");
        x.pass(4);
        x.leaves(4);
        // From the full lock udud, duud and dudu spend 10 + 10: the first by rows is udud.
        due("20 from a full lock", x.best(0, -1), 20);
        due("20 from a full lock, first", x.best(0, 0), 0);
        due("20 from a full lock, second", x.best(0, 1), 2);
        due("20 from a full lock, third", x.best(0, 2), 1);
        due("20 from a full lock, fourth", x.best(0, 3), 3);
        due("20 nothing is done", x.count(3), 1);
    }

    private static void p20Sizes() {
        LockStaircase x = new LockStaircase();
        x.lock(0, 0, 10);
        Check.tell(x, "a+310,b+100,c-201");
        // uud, udu fill twice, duu three times: the first by rows, 2 * 10 + 3 + 1 - 2.
        due("20 with sizes", x.best(0, -1), 22);
        due("20 with sizes, second", x.best(0, 1), 1);
        // By uud 24 are gone behind b; by udu it is 13, 11, 22.
        x.reach(1, 1, 500 - 22);
        due("20 one is good", x.orders(0), 1);
        due("20 the good one, second", x.best(0, 1), 2);
        x.reach(1, 1, 500 - 21);
        due("20 none is good", x.best(0, -1), NONE);
        // Step 3 of a brings 3 to the 500 below.
        x.reach(1, 1, 0);
        x.reach(0, 2, 502);
        due("20 a has no room below", x.orders(0), 0);
    }

    private static void p20SixOfEach() {
        LockStaircase x = new LockStaircase();
        Check.tell(x, "a+900,b+000,c+000,d+000,e+000,f+000,g+010");
        // g is first, a second; f is the seventh and not looked at.
        due("20 six of seven", x.best(0, -1), 6 * 20 + 9);
        due("20 first is g", x.best(0, 0), 6);
        due("20 sixth is e", x.best(0, 5), 4);
        due("20 no seventh", x.best(0, 6), NONE);
        Check.tell(x, "k-001,l-001,m-001,n-001,o-001");
        due("20 six and five", x.orders(0), 462);
        x.leaves(5);
        Check.tell(x, "p-001");
        due("20 six and six", x.orders(0), 924);
        due("20 no thirteenth", x.best(0, 12), NONE);
        due("20 a twelfth", x.best(0, 11), 11);
        // Rules look at whole queues.
        x.locks(1);
        Check.tell(x, "a+000,b+000,c+000,d+000,e+000,f+000,g+000");
        due("21 seven by a rule", x.ruled(0, 2, 1), 7);
    }

    private static void p21Ruled() {
        LockStaircase x = new LockStaircase();
        Check.tell(x, "a+010,b+000,c-021,d-001");
        // By turns udud: 20, 0, 20, 0. By rank c a b d: 20, 20, 20, 0. Below first: 20, 20, 0, 20. As it stands: udud.
        due("21 rule 0", x.ruled(0, 0, 0), 40);
        due("21 rule 1", x.ruled(0, 1, 0), 60);
        due("21 rule 2", x.ruled(0, 2, 0), 60);
        due("21 rule 3", x.ruled(0, 3, 0), 40);
        due("21 done", x.ruled(0, 1, 1), 4);
        due("21 full behind", x.ruled(0, 1, 2), 0);
        x.reach(1, 1, 460);
        due("21 barred: done", x.ruled(0, 1, 1), 2);
        due("21 barred: spent", x.ruled(0, 1, 0), 40);
        due("21 barred: full", x.ruled(0, 1, 2), 1);
        due("21 told to none", x.why(0), NOT);
        due("21 tally", x.count(3), 0);
        due("21 rule 4", x.ruled(0, 4, 0), VOID);
        due("21 rule -1", x.ruled(0, -1, 0), VOID);
        due("21 what 3", x.ruled(0, 0, 3), VOID);
        due("21 what -1", x.ruled(0, 0, -1), VOID);
        due("21 lock 2", x.ruled(2, 0, 0), VOID);
        due("21 lock -1", x.ruled(-1, 0, 0), VOID);
        due("21 none: spent", x.ruled(1, 0, 0), 0);
        due("21 none: done", x.ruled(1, 3, 1), 0);
        due("21 none: full", x.ruled(1, 3, 2), 0);
        x.reach(1, 1, 0);
        x.run(0, 2);
        Check.tell(x, "a+000,b+000,c-001,d-001,e+000");
        x.pass(4);
        // From the full lock by rule 3: d, u, d, u.
        due("21 as it stands, full", x.ruled(0, 3, 0), 0 + 20 + 0 + 20);
        due("21 as it stands, full behind", x.ruled(0, 3, 2), 1);
        // Rule 0 takes turns from below first: u 20, d 0, u 20, d 0.
        due("21 turns, full behind", x.ruled(0, 0, 2), 0);
    }

    private static void p22Run() {
        LockStaircase x = new LockStaircase();
        Check.tell(x, "a+100,b+010,c-201,d-001");
        due("22 run by rank", x.run(0, 1), 4);
        due("22 a is above", x.boat(0, 3), 1);
        due("22 b is above", x.boat(1, 3), 1);
        due("22 c is below", x.boat(2, 3), 0);
        due("22 tally", x.count(3), 4);
        // b 20; a 21; c -2; d 20.
        due("22 unlike", x.tally(-1, 0), 3);
        due("22 least", x.tally(0, 0), -2);
        due("22 twenty twice", x.tally(1, 1), 2);
        due("22 none waits", x.run(0, 0), 0);
        x.reach(1, 1, x.ofReach(1, 0) - 20);
        Check.tell(x, "a+000,b+000,c-001");
        due("22 till one is barred", x.run(0, 2), 1);
        due("22 a went", x.boat(0, 3), 1);
        due("22 b stands", x.boat(1, 3), 0);
        due("22 c stands", x.boat(2, 3), 1);
        due("22 why", x.why(1), 2);
        due("22 lock 2", x.run(2, 0), BAD);
        due("22 lock -1", x.run(-1, 0), BAD);
        due("22 rule 4", x.run(0, 4), BAD);
        due("22 rule -1", x.run(0, -1), BAD);
    }

    private static void p23Keeper() {
        LockStaircase x = new LockStaircase();
        due("23 none: the least rule", x.keeper(0), 0);
        Check.tell(x, "a+000,b+000,c-091,d-091");
        // By turns and as it stands udud 40, by rank dduu 80, below first uudd 60: 0 ahead of 3.
        due("23 by turns", x.keeper(0), 0);
        due("23 nothing is done", x.count(3), 0);
        keeperByMostDone();
        keeperBelowFirst();
        keeperByLeastSpent();
        due("23 lock 2", x.keeper(2), BAD);
        due("23 lock -1", x.keeper(-1), BAD);
    }

    /** One emptying of a full lock has room: an up first takes it and none goes on; a down first lets an up fill. */
    private static void keeperByMostDone() {
        LockStaircase x = new LockStaircase();
        x.locks(1);
        Check.tell(x, "u+000");
        x.pass(0);
        x.leaves(0);
        Check.tell(x, "a-001,b+000");
        x.reach(0, 2, 519);
        due("23 none is done by any rule", x.keeper(0), 0);
        x.reach(0, 2, 520);
        due("23 rule 0 does one", x.ruled(0, 0, 1), 1);
        due("23 rule 1 does two", x.ruled(0, 1, 1), 2);
        due("23 rule 2 does one", x.ruled(0, 2, 1), 1);
        due("23 rule 3 does two", x.ruled(0, 3, 1), 2);
        due("23 of 1 and 3 the least", x.keeper(0), 1);
        Check.tell(x, "b+090");
        due("23 as it stands alone", x.keeper(0), 3);
    }

    /** Two downs of size 9 have room above only behind an up of size 9. */
    private static void keeperBelowFirst() {
        LockStaircase x = new LockStaircase();
        x.locks(1);
        x.lock(0, 0, 1);
        x.reach(1, 2, 507);
        Check.tell(x, "a+010,b+900,c-991,d-991");
        due("23 rule 0, one", x.ruled(0, 0, 1), 1);
        due("23 rule 1, none", x.ruled(0, 1, 1), 0);
        due("23 rule 2, all", x.ruled(0, 2, 1), 4);
        due("23 rule 3, one", x.ruled(0, 3, 1), 1);
        due("23 below first", x.keeper(0), 2);
    }

    /** From a full lock ddu fills twice, udd twice, dud once: as it stands, and by rank where c is last. */
    private static void keeperByLeastSpent() {
        LockStaircase x = new LockStaircase();
        x.locks(1);
        Check.tell(x, "u+000");
        x.pass(0);
        x.leaves(0);
        Check.tell(x, "a-091,b+050,c-001");
        due("23 rule 0 spends", x.ruled(0, 0, 0), 40);
        due("23 rule 1 spends", x.ruled(0, 1, 0), 20);
        due("23 rule 2 spends", x.ruled(0, 2, 0), 40);
        due("23 rule 3 spends", x.ruled(0, 3, 0), 20);
        due("23 by rank", x.keeper(0), 1);
        Check.tell(x, "c-091");
        due("23 rule 1 spends more now", x.ruled(0, 1, 0), 40);
        due("23 as it stands", x.keeper(0), 3);
    }

    private static void p24Day() {
        LockStaircase x = new LockStaircase();
        x.reach(0, 3, 99);
        x.reach(0, 1, 450);
        x.reach(1, 3, 10);
        x.reach(2, 3, 5);
        x.feeds(30);
        x.reach(2, 2, 510);
        due("24 no traffic", x.day(0, 0), 0);
        due("24 loss down to least", x.ofReach(0, 0), 450);
        due("24 loss", x.ofReach(1, 0), 490);
        due("24 feed behind loss, up to most", x.ofReach(2, 0), 510);
        x.locks(2);
        x.reach(2, 3, 5);
        x.feeds(3);
        // u: fills 0, fills 1. d: empties 1, empties 0. u: fills both again. u: empties and fills each.
        due("24 three up, one down", x.day(3, 1), 8);
        due("24 summit", x.ofReach(2, 0), 500 - 5 + 3 - 60);
        due("24 middle", x.ofReach(1, 0), 500 - 60 + 20 + 20);
        due("24 below", x.ofReach(0, 0), 500 + 40);
        due("24 tally", x.tally(0, 1), 2);
        due("24 tally of 20", x.tally(1, 1), 6);
        due("24 no boats with names", x.count(1), 0);
        due("24 up 5", x.day(5, 0), BAD);
        due("24 down 5", x.day(0, 5), BAD);
        due("24 up -1", x.day(-1, 0), BAD);
        due("24 down -1", x.day(0, -1), BAD);
        x.locks(1);
        // d first where no up is: fills and empties.
        due("24 down alone", x.day(0, 4), 4);
        due("24 summit behind four", x.ofReach(1, 0), 420);
        due("24 four and four", x.day(4, 4), 8);
        due("24 by turns", x.ofReach(1, 0), 340);
    }

    private static void p24DayBarred() {
        LockStaircase x = new LockStaircase();
        x.reach(2, 1, 490);
        due("24 those ahead of the barred one", x.day(4, 4), 1);
        due("24 why", x.why(0), 1);
        due("24 nothing behind it", x.ofReach(0, 0), 500);
        due("24 lock 0 is full", x.ofLock(0, 3), 1);
        due("24 tally", x.count(3), 1);
    }

    private static void p25Dry() {
        LockStaircase x = new LockStaircase();
        // Each up draws 20 from the summit: 500 last for 25.
        due("25 days", x.dry(1, 0, 0), 25);
        due("25 lock", x.dry(1, 0, 1), 1);
        due("25 without traffic", x.dry(0, 0, 0), NOT);
        due("25 without traffic, lock", x.dry(0, 0, 1), NOT);
        due("25 nothing is done", x.ofReach(2, 0), 500);
        due("25 told to none", x.why(0), NOT);
        due("25 tally", x.count(3), 0);
        x.reach(2, 0, 820);
        due("25 41 days are looked at", x.dry(1, 0, 0), NOT);
        x.reach(2, 0, 819);
        due("25 behind 40", x.dry(1, 0, 0), 40);
        x.reach(2, 0, 19);
        due("25 the first one", x.dry(1, 0, 0), 0);
        x.reach(2, 0, 500);
        x.reach(0, 2, 510);
        due("25 the lowest has no room", x.dry(1, 0, 0), 1);
        due("25 at lock 0", x.dry(1, 0, 1), 0);
        x.feeds(20);
        x.reach(0, 2, 9999);
        due("25 fed", x.dry(1, 0, 0), NOT);
        due("25 up 5", x.dry(5, 0, 0), BAD);
        due("25 down 5", x.dry(0, 5, 0), BAD);
        due("25 up -1", x.dry(-1, 0, 0), BAD);
        due("25 down -1", x.dry(0, -1, 0), BAD);
        due("25 what 2", x.dry(1, 1, 2), BAD);
        due("25 what -1", x.dry(1, 1, -1), BAD);
    }

    private static void p26Pond() {
        LockStaircase x = new LockStaircase();
        x.reach(0, 2, 9999);
        due("26 a day of two up: the summit's lock saves", x.pond(2, 0, 1), 1);
        due("26 one up alone saves none", x.pond(1, 0, 1), NOT);
        due("26 no traffic", x.pond(0, 0, 20), NOT);
        due("26 nothing is done", x.ofLock(1, 1), 0);
        due("26 water", x.ofReach(2, 0), 500);
        due("26 tally", x.count(3), 0);
        x.lock(1, 1, 3);
        due("26 three at the most", x.pond(2, 0, 1), NOT);
        x.lock(1, 1, 2);
        due("26 a third one", x.pond(2, 0, 1), 1);
        Check.tell(x, "a+001");
        x.pass(0);
        due("26 a full one has none more", x.pond(2, 0, 1), NOT);
        x.about(0);
        x.pass(0);
        due("26 nor one that holds", x.pond(2, 0, 1), NOT);
        // The first day is barred, the second isn't; on the third the pond saves 6.
        x.locks(1);
        x.reach(1, 0, 0);
        x.feeds(15);
        due("26 behind a barred day", x.pond(1, 1, 3), 0);
        due("26 not by the second one", x.pond(1, 1, 2), NOT);
        due("26 up 5", x.pond(5, 0, 1), BAD);
        due("26 down 5", x.pond(0, 5, 1), BAD);
        due("26 up -1", x.pond(-1, 0, 1), BAD);
        due("26 down -1", x.pond(0, -1, 1), BAD);
        due("26 n 0", x.pond(1, 1, 0), BAD);
        due("26 n 21", x.pond(1, 1, 21), BAD);
        pondOfTheLowest();
    }

    /** A lock below the summit's saves its water only by barring: then the boats don't come to the summit's lock. */
    private static void pondOfTheLowest() {
        LockStaircase x = new LockStaircase();
        x.locks(3);
        // A down takes 20 from the summit; the next up bars at lock 0, as the middle has none left.
        x.reach(1, 0, 20);
        x.reach(1, 2, 33);
        x.reach(2, 0, 520);
        int now = x.pond(1, 1, 2);
        Check.holds("26 the lowest of the best is " + lowestPond(x), now == lowestPond(x));
    }

    /** The same by days that are truly done, and laid back. */
    private static int lowestPond(LockStaircase x) {
        x.image();
        x.day(1, 1);
        x.day(1, 1);
        int most = x.ofReach(3, 0);
        x.undo();
        int chosen = NOT;
        for (int lock = 0; lock < 3; lock++) {
            x.lock(lock, 1, 1);
            x.day(1, 1);
            x.day(1, 1);
            if (x.ofReach(3, 0) > most) {
                most = x.ofReach(3, 0);
                chosen = lock;
            }
            x.undo();
        }
        return chosen;
    }

    private static void p27Water() {
        LockStaircase x = new LockStaircase();
        due("27 at first", x.water(), 1500);
        x.lock(0, 0, 50);
        x.lock(0, 1, 2);
        Check.tell(x, "a+700,b-801");
        x.pass(0);
        due("27 a full lock keeps it", x.water(), 1500);
        due("27 but not in the reaches", x.ofReach(0, 0) + x.ofReach(1, 0) + x.ofReach(2, 0), 1450);
        x.pass(1);
        due("27 what is held", x.ofLock(0, 2), 25);
        due("27 all is there", x.water(), 1500);
        x.locks(6);
        due("27 six", x.water(), 3500);
        x.reach(6, 3, 9);
        x.feeds(2);
        x.day(2, 2);
        due("27 loss and feed", x.water(), 3493);
    }

    private static void p28Levels() {
        LockStaircase x = new LockStaircase();
        due("28 alike", x.levels(-1), 1);
        due("28 the one", x.levels(0), 500);
        due("28 no second", x.levels(1), NOT);
        x.locks(3);
        x.reach(1, 0, 7);
        x.reach(2, 0, 9999);
        due("28 three", x.levels(-1), 3);
        due("28 least", x.levels(0), 7);
        due("28 middle", x.levels(1), 500);
        due("28 most", x.levels(2), 9999);
        due("28 no fourth", x.levels(3), NOT);
        due("28 far", x.levels(Integer.MAX_VALUE), NOT);
        due("28 i -2", x.levels(-2), BAD);
        x.reach(3, 0, 0);
        due("28 nought", x.levels(0), 0);
        due("28 four", x.levels(-1), 4);
        x.locks(6);
        for (int reach = 0; reach < 7; reach++) {
            x.reach(reach, 0, 70 - reach);
        }
        due("28 seven", x.levels(-1), 7);
        due("28 the seventh", x.levels(6), 70);
    }

    private static void p29Tally() {
        LockStaircase x = new LockStaircase();
        due("29 none", x.tally(-1, 0), 0);
        due("29 none by 1", x.tally(-1, 1), 0);
        due("29 none or less", x.tally(1000, 2), 0);
        due("29 none such", x.tally(0, 0), NONE);
        x.lock(0, 0, 99);
        Check.tell(x, "a+900,b-901,c+000,d+100,e-101");
        x.pass(0);
        x.pass(1);
        x.pass(2);
        x.pass(3);
        x.pass(4);
        // 108, -9, 99, 100, -1.
        due("29 unlike", x.tally(-1, 0), 5);
        due("29 unlike by 1", x.tally(-1, 1), 5);
        due("29 least", x.tally(0, 0), -9);
        due("29 then", x.tally(1, 0), -1);
        due("29 99", x.tally(2, 0), 99);
        due("29 100", x.tally(3, 0), 100);
        due("29 most", x.tally(4, 0), 108);
        due("29 how often", x.tally(4, 1), 1);
        due("29 no sixth", x.tally(5, 0), NONE);
        due("29 no sixth by 1", x.tally(5, 1), NONE);
        due("29 i -2", x.tally(-2, 0), NONE);
        due("29 i -2 by 1", x.tally(-2, 1), NONE);
        due("29 -1 or less", x.tally(-1, 2), 2);
        due("29 -2 or less", x.tally(-2, 2), 1);
        due("29 -10 or less", x.tally(-10, 2), 0);
        due("29 99 or less", x.tally(99, 2), 3);
        due("29 107 or less", x.tally(107, 2), 4);
        due("29 all", x.tally(Integer.MAX_VALUE, 2), 5);
        due("29 the least int", x.tally(Integer.MIN_VALUE, 2), 0);
        due("29 what 3", x.tally(0, 3), VOID);
        due("29 what -1", x.tally(-1, -1), VOID);
        due("29 what 3 of -1", x.tally(-1, 3), VOID);
        x.day(1, 0);
        // 99 by lock 0, 20 by lock 1.
        due("29 20 by a day", x.tally(2, 0), 20);
        due("29 99 twice", x.tally(3, 1), 2);
        due("29 99 or less then", x.tally(99, 2), 5);
    }

    private static void p30Pays() {
        LockStaircase x = new LockStaircase();
        long most = Long.MAX_VALUE;
        long least = Long.MIN_VALUE;
        due("31 at first", x.account(), 0);
        due("30 pays", x.pays(6, -7), 1);
        due("31 account", x.account(), -42);
        due("30 nought", x.pays(0, least), 1);
        due("30 product over", x.pays(most, 2), OVER);
        due("30 product over, the other way", x.pays(2, most), OVER);
        due("30 -1 of the least", x.pays(-1, least), OVER);
        due("30 the least of -1", x.pays(least, -1), OVER);
        due("30 sum below", x.pays(1, least), OVER);
        due("31 unchanged", x.account(), -42);
        due("30 sum up", x.pays(1, most), 1);
        due("31 up", x.account(), most - 42);
        due("30 just so", x.pays(42, 1), 1);
        due("30 one more", x.pays(1, 1), OVER);
        due("31 the most", x.account(), most);
        due("30 first the product, though the sum would do", x.pays(2, least / 2 - 1), OVER);
        due("30 down", x.pays(1, least), 1);
        due("31 -1", x.account(), -1);
        due("30 down again", x.pays(-1, most), 1);
        due("31 the least", x.account(), least);
        due("30 one less", x.pays(-1, 1), OVER);
        due("30 great product", x.pays(3037000500L, 3037000500L), OVER);
        due("30 great product that goes", x.pays(3037000499L, 3037000499L), 1);
        due("31 then", x.account(), least + 3037000499L * 3037000499L);
    }

    private static void p32Image() {
        LockStaircase x = new LockStaircase();
        due("32 none", x.image(), 0);
        Check.tell(x, "a+000,b+000");
        due("32 two", x.image(), 2);
        x.leaves(0);
        due("33 two again", x.undo(), 2);
        x.leaves(0);
        due("32 a new one", x.image(), 1);
        x.leaves(0);
        due("33 the new one", x.undo(), 1);
        due("33 b", x.boat(0, 10), 'b');
    }

    private static void p33Undo() {
        LockStaircase x = new LockStaircase();
        due("33 none", x.undo(), STATE);
        x.locks(3);
        x.lock(0, 0, 30);
        x.lock(0, 1, 1);
        x.lock(1, 1, 2);
        x.reach(3, 1, 40);
        x.reach(3, 2, 900);
        x.reach(1, 3, 8);
        x.feeds(77);
        Check.tell(x, "a+350,b-241");
        x.pass(0);
        x.pass(1);
        x.pays(5, 5);
        x.day(1, 0);
        Check.type(x, "zz");
        int water = x.water();
        int below = x.ofReach(0, 0);
        int held = x.ofLock(0, 2);
        int tallied = x.tally(20, 2);
        due("33 image", x.image(), 2);
        x.day(3, 3);
        x.reach(2, 0, 9000);
        x.reach(2, 1, 9000);
        due("33 barred behind the image", x.day(4, 0) < 12 ? 1 : 0, 1);
        int why = x.why(0) * 10 + x.why(1);
        x.locks(5);
        Check.type(x, "z");
        x.pays(1, 1);
        x.feeds(1);
        for (int time = 0; time < 2; time++) {
            due("33 undo", x.undo(), 2);
            due("33 locks", x.count(0), 3);
            due("33 water", x.water(), water);
            due("33 below", x.ofReach(0, 0), below);
            due("33 held", x.ofLock(0, 2), held);
            due("33 full", x.ofLock(1, 3), 1);
            due("33 lockful", x.ofLock(0, 0), 30);
            due("33 ponds", x.ofLock(1, 1), 2);
            due("33 least", x.ofReach(3, 1), 40);
            due("33 most", x.ofReach(3, 2), 900);
            due("33 loss", x.ofReach(1, 3), 8);
            due("33 feed", x.count(4), 77);
            due("33 boat a", x.boat(0, 3), 1);
            due("33 boat b", x.boat(1, 3), 0);
            due("33 size", x.boat(0, 0), 3);
            due("33 tally", x.count(3), 5);
            due("33 tally of 20 or less", x.tally(20, 2), tallied);
            due("33 account", x.account(), 25);
            due("33 the tape is no part of it", x.count(2), 3);
            due("33 why is no part of it", x.why(0) * 10 + x.why(1), why);
            x.day(1, 1);
            x.leaves(0);
            x.pays(2, 2);
            x.locks(2);
        }
    }

    private static void p33UndoOfSix() {
        LockStaircase x = new LockStaircase();
        x.locks(6);
        x.lock(5, 0, 99);
        x.lock(5, 1, 1);
        x.reach(6, 0, 800);
        x.reach(6, 1, 300);
        x.reach(6, 2, 900);
        x.reach(6, 3, 4);
        Check.tell(x, "a+905,b-916,c-006");
        due("33 108 spent", x.pass(0), 108);
        due("33 9 come back", x.pass(1), -9);
        due("33 image", x.image(), 3);
        x.locks(1);
        Check.tell(x, "a-001");
        x.pass(0);
        due("33 undo", x.undo(), 3);
        due("33 the highest lock", x.ofLock(5, 0), 99);
        due("33 what its ponds hold", x.ofLock(5, 2), 33);
        due("33 summit", x.ofReach(6, 0), 701);
        due("33 least", x.ofReach(6, 1), 300);
        due("33 most", x.ofReach(6, 2), 900);
        due("33 loss", x.ofReach(6, 3), 4);
        due("33 rank", x.boat(1, 1), 1);
        due("33 tally", x.tally(-1, 0), 2);
        due("33 least spent", x.tally(0, 0), -9);
        due("33 most spent", x.tally(1, 0), 108);
        due("33 water", x.water(), 6 * 500 + 800);
        due("33 none is full", x.count(5), 0);
        due("33 on from there", x.pass(2), 66);
        x.locks(1);
        x.lock(0, 0, 99);
        Check.tell(x, "a+900,b+900");
        x.image();
        due("33 108 again", x.pass(0), 108);
        due("33 twice", x.tally(108, 2) - x.tally(107, 2), 2);
        x.undo();
        due("33 once by the image", x.tally(108, 2) - x.tally(107, 2), 1);
    }

    private static void p34Count() {
        LockStaircase x = new LockStaircase();
        x.locks(4);
        x.feeds(9);
        Check.tell(x, "a+000,b+001,c-004");
        Check.type(x, "abc");
        x.day(1, 0);
        due("34 locks", x.count(0), 4);
        due("34 boats", x.count(1), 3);
        due("34 tape", x.count(2), 3);
        due("34 passages", x.count(3), 4);
        due("34 feed", x.count(4), 9);
        due("34 full locks", x.count(5), 4);
        x.pass(2);
        due("34 three full", x.count(5), 3);
        due("34 what 6", x.count(6), BAD);
        due("34 what -1", x.count(-1), BAD);
    }
}
