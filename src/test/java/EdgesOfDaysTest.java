/** The boundary cases of promises 24 to 26: days of traffic, when one is barred, which lock wants a pond most. */
public final class EdgesOfDaysTest extends Edges {
    public static void main(String[] args) {
        runAll(EdgesOfDaysTest.class, 24, 26);
    }

    /** "TRAFFIC u, d (0 .. 4 each)": below 0 and above 4 is BAD, and nothing of the DAY is done. */
    static void p24NoSuchTraffic() {
        LockStaircase x = canal(2, "");
        x.feeds(9);
        x.reach(0, 3, 9);
        String before = picture(x);
        due(x.day(-1, 0), BAD);
        due(x.day(0, -1), BAD);
        due(x.day(5, 0), BAD);
        due(x.day(0, 5), BAD);
        due(x.day(LEAST_INT, 1), BAD);
        due(x.day(1, LEAST_INT), BAD);
        due(x.day(MOST_INT, 1), BAD);
        due(x.day(1, MOST_INT), BAD);
        holds(picture(x).equals(before));
    }

    /** "TRAFFIC u, d (0 .. 4 each)": a DAY without any has its LOSS and FEED. */
    static void p24NoTraffic() {
        LockStaircase x = canal(1, "");
        x.feeds(9);
        x.reach(0, 3, 4);
        due(x.day(0, 0), 0);
        due(x.ofReach(0, 0), 496);
        due(x.ofReach(1, 0), 509);
        due(x.count(3), 0);
    }

    /** "TRAFFIC u, d (0 .. 4 each)": four of each, of one sort alone too. */
    static void p24MostTraffic() {
        LockStaircase x = canal(6, "");
        due(x.day(4, 4), 48);
        due(x.day(4, 0), 24);
        due(x.day(0, 4), 24);
        due(x.count(3), 96);
    }

    /** "loses its LOSS (no more than down to LEAST)": short of it, just to it, no further. */
    static void p24LossDownToLeast() {
        LockStaircase x = canal(3, "");
        for (int reach = 0; reach <= 3; reach++) {
            x.reach(reach, 1, 450);
            x.reach(reach, 3, 48 + reach);
        }
        due(x.day(0, 0), 0);
        due(x.ofReach(0, 0), 452);
        due(x.ofReach(1, 0), 451);
        due(x.ofReach(2, 0), 450);
        due(x.ofReach(3, 0), 450);
        due(x.day(0, 0), 0);
        for (int reach = 0; reach <= 3; reach++) {
            due(x.ofReach(reach, 0), 450);
        }
    }

    /** "loses its LOSS (no more than down to LEAST)": LEAST 0 is WATER 0. */
    static void p24LossDownToNought() {
        LockStaircase x = canal(1, "");
        x.reach(0, 0, 98);
        x.reach(0, 3, 99);
        x.reach(1, 0, 99);
        x.reach(1, 3, 99);
        due(x.day(0, 0), 0);
        due(x.ofReach(0, 0), 0);
        due(x.ofReach(1, 0), 0);
    }

    /** "FEED comes to THE SUMMIT (no more than up to MOST)": short of it, just to it, no further. */
    static void p24FeedUpToMost() {
        int[] feeds = {9, 10, 11, 999};
        int[] waters = {509, 510, 510, 510};
        for (int i = 0; i < feeds.length; i++) {
            LockStaircase x = canal(2, "");
            x.reach(2, 2, 510);
            x.feeds(feeds[i]);
            due(x.day(0, 0), 0);
            due(x.ofReach(2, 0), waters[i]);
            due(x.ofReach(1, 0), 500);
            due(x.ofReach(0, 0), 500);
        }
    }

    /** "FEED comes to THE SUMMIT (no more than up to MOST)": MOST 9999. */
    static void p24FeedUpTo9999() {
        LockStaircase x = canal(1, "");
        x.reach(1, 0, 9998);
        x.feeds(1);
        x.day(0, 0);
        due(x.ofReach(1, 0), 9999);
        x.day(0, 0);
        due(x.ofReach(1, 0), 9999);
    }

    /** "the highest one is THE SUMMIT": that of each number of LOCKS is fed. */
    static void p24SummitOfEach() {
        for (int n = 1; n <= 6; n++) {
            LockStaircase x = canal(n, "");
            x.feeds(7);
            x.day(0, 0);
            due(x.ofReach(n, 0), 507);
            due(x.ofReach(n - 1, 0), 500);
        }
    }

    /** "FEED (0 .. 999 a DAY ..)", "LOSS of a REACH (0 .. 99 a DAY ..)": the most of both. */
    static void p24MostFeedAndLoss() {
        LockStaircase x = canal(1, "");
        x.feeds(999);
        x.reach(1, 3, 99);
        x.reach(0, 3, 99);
        x.day(0, 0);
        due(x.ofReach(1, 0), 1400);
        due(x.ofReach(0, 0), 401);
    }

    /** "each REACH loses its LOSS ..; FEED comes to THE SUMMIT ..; then": LOSS is ahead of FEED. */
    static void p24LossAheadOfFeed() {
        LockStaircase x = canal(1, "");
        x.reach(1, 1, 498);
        x.reach(1, 3, 5);
        x.feeds(1);
        x.day(0, 0);
        due(x.ofReach(1, 0), 499);
        x = canal(1, "");
        x.reach(1, 2, 500);
        x.reach(1, 3, 5);
        x.feeds(7);
        x.day(0, 0);
        due(x.ofReach(1, 0), 500);
    }

    /** "FEED comes to THE SUMMIT ..; then u BOATS ..": the BOATS have it, and have not what is lost. */
    static void p24BoatsBehindLossAndFeed() {
        LockStaircase x = canal(1, "");
        x.reach(1, 0, 10);
        x.feeds(10);
        due(x.day(1, 0), 1);
        due(x.ofReach(1, 0), 0);
        x = canal(1, "");
        x.reach(1, 0, 20);
        x.reach(1, 3, 1);
        due(x.day(1, 0), 0);
        due(x.ofReach(1, 0), 19);
    }

    /** "BOATS of SIZE 0": they carry no water. */
    static void p24SizeNought() {
        LockStaircase x = canal(1, "");
        x.reach(1, 1, 480);
        x.reach(0, 2, 500);
        due(x.day(1, 0), 1);
        due(x.ofReach(1, 0), 480);
        due(x.ofReach(0, 0), 500);
        due(x.tally(0, 0), 20);
    }

    /** "by turns, an up first": by one filling an up and then a down can go. */
    static void p24UpFirst() {
        LockStaircase x = canal(1, "");
        x.reach(1, 1, 480);
        due(x.day(1, 1), 2);
        x = canal(1, "");
        x.reach(1, 1, 440);
        due(x.day(4, 4), 6);
    }

    /** "(the rest of the one sort behind one another)": downs. */
    static void p24RestOfTheDowns() {
        LockStaircase x = canal(1, "");
        x.reach(1, 1, 441);
        due(x.day(1, 4), 3);
        x = canal(1, "");
        x.reach(1, 1, 420);
        due(x.day(1, 4), 5);
    }

    /** "(the rest of the one sort behind one another)": ups. */
    static void p24RestOfTheUps() {
        LockStaircase x = canal(1, "");
        x.reach(1, 1, 441);
        due(x.day(4, 1), 3);
        x = canal(1, "");
        x.reach(1, 1, 420);
        due(x.day(4, 1), 5);
    }

    /** "d down": with no ups a down is the first. */
    static void p24DownsAlone() {
        LockStaircase x = canal(2, "");
        due(x.day(0, 1), 2);
        due(x.ofReach(2, 0), 480);
        due(x.ofReach(1, 0), 500);
        due(x.ofReach(0, 0), 520);
    }

    /** "a BARRED PASSAGE ends the DAY": though the next BOAT could go. */
    static void p24BarredEndsTheDay() {
        LockStaircase x = canal(2, "");
        makeFull(x, 1);
        x.reach(2, 1, 480);
        due(x.day(1, 1), 1);
        cause(x, 1, 2, 2, 1);
        due(x.ofLock(0, 3), 1);
        due(x.ofLock(1, 3), 1);
        due(x.day(0, 1), 2);
    }

    /** "PASSAGES done of all that went, those ahead of a BARRED one of the same BOAT, too" */
    static void p24ThoseAheadOfABarredOne() {
        LockStaircase x = canal(6, "");
        x.reach(6, 0, 39);
        due(x.day(4, 4), 12 + 5);
        due(x.count(3), 17);
        due(x.ofReach(6, 0), 19);
    }

    /** "a BARRED PASSAGE ends the DAY": at once, behind LOSS and FEED. */
    static void p24BarredAtOnce() {
        LockStaircase x = canal(1, "");
        x.reach(1, 0, 0);
        x.reach(0, 3, 4);
        x.feeds(19);
        due(x.day(1, 1), 0);
        due(x.ofReach(1, 0), 19);
        due(x.ofReach(0, 0), 496);
        due(x.day(1, 1), 2);
    }

    /** "the BOATS of a DAY are none of those with NAMES" */
    static void p24NoneOfThoseWithNames() {
        LockStaircase x = canal(2, "a+000,b-002");
        due(x.day(2, 2), 8);
        due(x.count(1), 2);
        due(x.boat(0, 3), 0);
        due(x.boat(1, 3), 2);
        due(x.ofReach(1, 4), 0);
        due(x.ofReach(2, 4), 1);
        due(x.queue(0, -1), 1);
    }

    /** "run(), day(), through(), pass() tell THE TALLY and why()" */
    static void p24TellsTallyAndWhy() {
        LockStaircase x = canal(1, "");
        x.reach(1, 1, 480);
        due(x.day(2, 1), 2);
        due(x.count(3), 2);
        due(x.tally(0, 0), 0);
        due(x.tally(1, 0), 20);
        cause(x, 0, 2, 1, 1);
    }

    /** "BAD": TRAFFIC 0 .. 4 each. */
    static void p25NoSuchTraffic() {
        LockStaircase x = new LockStaircase();
        due(x.dry(-1, 0, 0), BAD);
        due(x.dry(0, -1, 0), BAD);
        due(x.dry(5, 0, 0), BAD);
        due(x.dry(0, 5, 0), BAD);
        due(x.dry(LEAST_INT, 0, 0), BAD);
        due(x.dry(0, LEAST_INT, 0), BAD);
        due(x.dry(MOST_INT, 0, 0), BAD);
        due(x.dry(0, MOST_INT, 0), BAD);
        due(x.dry(4, 4, 0), 6);
    }

    /** "behind how many DAYS (what 0), at which LOCK (1). BAD": no other what, ahead of NOT. */
    static void p25NoSuchWhat() {
        LockStaircase x = new LockStaircase();
        due(x.dry(0, 0, -1), BAD);
        due(x.dry(0, 0, 2), BAD);
        due(x.dry(0, 0, LEAST_INT), BAD);
        due(x.dry(0, 0, MOST_INT), BAD);
    }

    /** "behind how many whole DAYS (0 .. 40)": 0, where the first one is ended. */
    static void p25TheFirstDay() {
        LockStaircase x = canal(1, "");
        x.reach(1, 0, 19);
        due(x.dry(1, 0, 0), 0);
        due(x.dry(1, 0, 1), 0);
        x.reach(1, 0, 20);
        due(x.dry(1, 0, 0), 1);
    }

    /** "dry(): 41 DAYS are looked at.": 40 is the most, behind that NOT. */
    static void p25FortyOneDays() {
        LockStaircase x = canal(2, "");
        x.reach(2, 0, 819);
        due(x.dry(1, 0, 0), 40);
        due(x.dry(1, 0, 1), 1);
        x.reach(2, 0, 820);
        due(x.dry(1, 0, 0), NOT);
        due(x.dry(1, 0, 1), NOT);
    }

    /** "NOT: within 40 none is.": without TRAFFIC none can be. */
    static void p25NoTraffic() {
        LockStaircase x = canal(1, "");
        x.reach(1, 0, 0);
        x.reach(0, 2, 500);
        due(x.dry(0, 0, 0), NOT);
        due(x.dry(0, 0, 1), NOT);
        due(x.dry(1, 0, 0), 0);
        due(x.dry(0, 1, 0), 0);
    }

    /** "at which LOCK": the lowest and the highest. */
    static void p25LowestAndHighestLock() {
        LockStaircase x = canal(6, "");
        x.reach(6, 0, 50);
        due(x.dry(1, 0, 0), 2);
        due(x.dry(1, 0, 1), 5);
        x.reach(0, 2, 519);
        due(x.dry(0, 1, 0), 0);
        due(x.dry(0, 1, 1), 0);
    }

    /** "behind how many whole DAYS": the last BOAT of a DAY may be the one. */
    static void p25TheLastBoat() {
        LockStaircase x = canal(1, "");
        x.reach(1, 0, 79);
        due(x.dry(4, 0, 0), 0);
        x.reach(1, 0, 80);
        due(x.dry(4, 0, 0), 1);
    }

    /** "days with feed, loss and traffic": a DAY in thought has all of them. */
    static void p25LossAndFeed() {
        LockStaircase x = canal(1, "");
        x.reach(1, 0, 100);
        due(x.dry(1, 0, 0), 5);
        x.reach(1, 3, 30);
        due(x.dry(1, 0, 0), 2);
        x.feeds(50);
        due(x.dry(1, 0, 0), NOT);
    }

    /** "what is in thought tells neither": nothing is done by it. */
    static void p25InThought() {
        LockStaircase x = canal(1, "a+000");
        x.reach(1, 3, 5);
        x.feeds(3);
        String before = picture(x);
        due(x.dry(1, 0, 0), 22);
        holds(picture(x).equals(before));
        due(x.why(0), NOT);
    }

    /** "BAD": TRAFFIC 0 .. 4 each. */
    static void p26NoSuchTraffic() {
        LockStaircase x = new LockStaircase();
        due(x.pond(-1, 0, 1), BAD);
        due(x.pond(0, -1, 1), BAD);
        due(x.pond(5, 0, 1), BAD);
        due(x.pond(0, 5, 1), BAD);
        due(x.pond(LEAST_INT, 0, 1), BAD);
        due(x.pond(0, LEAST_INT, 1), BAD);
        due(x.pond(MOST_INT, 0, 1), BAD);
        due(x.pond(0, MOST_INT, 1), BAD);
        due(x.pond(4, 4, 1), 1);
    }

    /** "n (1 .. 20) DAYS" */
    static void p26DaysFromOneToTwenty() {
        LockStaircase x = new LockStaircase();
        due(x.pond(2, 0, 0), BAD);
        due(x.pond(2, 0, -1), BAD);
        due(x.pond(2, 0, LEAST_INT), BAD);
        due(x.pond(2, 0, 21), BAD);
        due(x.pond(2, 0, MOST_INT), BAD);
        due(x.pond(2, 0, 1), 1);
        due(x.pond(1, 0, 20), 1);
    }

    /** "behind n .. DAYS": as many as told, no more, no fewer. */
    static void p26AsManyDays() {
        LockStaircase x = canal(1, "");
        // A pond is filled by the second up at the earliest.
        due(x.pond(1, 0, 1), NOT);
        due(x.pond(1, 0, 2), 0);
        // Behind three days 113 would be there, not 83; on the fourth all is lost or spent, with the pond, too.
        x.reach(1, 3, 99);
        due(x.pond(2, 0, 3), 0);
        due(x.pond(2, 0, 4), NOT);
        due(x.pond(2, 0, 20), NOT);
    }

    /** "The LOCK by which": that of THE SUMMIT draws from it, the highest of any number of LOCKS. */
    static void p26HighestLock() {
        for (int n = 1; n <= 6; n++) {
            LockStaircase x = canal(n, "");
            due(x.pond(2, 0, 1), n - 1);
        }
    }

    /** "NOT": without TRAFFIC no POND saves any. */
    static void p26NoTraffic() {
        LockStaircase x = new LockStaircase();
        due(x.pond(0, 0, 1), NOT);
        due(x.pond(0, 0, 20), NOT);
    }

    /** "(3 at most in all ..)" */
    static void p26ThreePondsAtMost() {
        LockStaircase x = canal(1, "");
        x.lock(0, 1, 2);
        due(x.pond(2, 0, 1), 0);
        x.lock(0, 1, 3);
        due(x.pond(2, 0, 1), NOT);
    }

    /** "(.. where it is EMPTY ..)" */
    static void p26NotWhereItIsFull() {
        LockStaircase x = canal(1, "");
        due(x.pond(2, 0, 1), 0);
        makeFull(x, 0);
        due(x.pond(2, 0, 1), NOT);
        makeEmpty(x, 0);
        due(x.pond(2, 0, 1), 0);
    }

    /** "(.. and HELD is 0)": 1 is above that. */
    static void p26NotWhereItHolds() {
        LockStaircase x = canal(1, "");
        x.lock(0, 0, 4);
        x.lock(0, 1, 1);
        due(x.pond(3, 0, 1), 0);
        makeFull(x, 0);
        makeEmpty(x, 0);
        due(x.ofLock(0, 2), 1);
        due(x.pond(3, 0, 1), NOT);
    }

    /** "more than now": as much is not more. */
    static void p26AsMuchIsNotMore() {
        LockStaircase x = canal(1, "");
        x.lock(0, 0, 2);
        due(x.ofLock(0, 4), 0);
        // One pond of a lockful of 2 saves none.
        due(x.pond(4, 4, 20), NOT);
        x.lock(0, 0, 3);
        due(x.pond(4, 4, 20), 0);
    }

    /** "of several the lowest": either saves as much, by where it bars the downs. */
    static void p26OfSeveralTheLowest() {
        LockStaircase x = canal(2, "");
        x.reach(1, 1, 460);
        x.reach(1, 2, 560);
        due(summitBehindThreeDays(x, -1), 500 - 12 * 20);
        // A pond of lock 0 leaves 6 more in the reach between by each down: the ninth is barred by its most.
        due(summitBehindThreeDays(x, 0), 500 - 8 * 20);
        // One of lock 1 leaves 6 less there: the seventh is barred by its least, and one of the last day.
        due(summitBehindThreeDays(x, 1), 500 - 20 - 10 * 14);
        due(x.pond(0, 4, 3), 0);
    }

    /** With a pond more at a lock (none: -1), by days that are truly done, and laid back. */
    private static int summitBehindThreeDays(LockStaircase x, int lock) {
        x.image();
        x.lock(lock, 1, 1);
        for (int day = 0; day < 3; day++) {
            x.day(0, 4);
        }
        int water = x.ofReach(2, 0);
        x.undo();
        return water;
    }

    /** "pond(): against what THE SUMMIT would have with PONDS as they are": not against its WATER of today. */
    static void p26AgainstPondsAsTheyAre() {
        LockStaircase x = canal(1, "");
        due(x.pond(2, 0, 1), 0);
        due(x.ofReach(1, 0), 500);
        // With a feed it has more than today either way.
        x.feeds(200);
        due(x.pond(1, 0, 1), NOT);
    }

    /** "pond(): .. a DAY that is ended by a BARRED PASSAGE does not end the DAYS." */
    static void p26BarredDayDoesNotEndTheDays() {
        LockStaircase x = canal(1, "");
        x.reach(1, 0, 0);
        x.feeds(15);
        due(x.dry(1, 1, 0), 0);
        due(x.pond(1, 1, 2), NOT);
        due(x.pond(1, 1, 3), 0);
    }

    /** "what is in thought tells neither": nothing is done by it. */
    static void p26InThought() {
        LockStaircase x = canal(2, "a+000");
        x.reach(2, 3, 5);
        x.reach(2, 0, 50);
        x.feeds(3);
        String before = picture(x);
        due(x.dry(2, 0, 0), 1);
        due(x.pond(2, 0, 2), 1);
        holds(picture(x).equals(before));
        due(x.why(0), NOT);
    }
}
