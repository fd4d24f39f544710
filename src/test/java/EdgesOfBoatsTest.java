/** The boundary cases of promises 9 to 13: boats that are told, asked for, found, gone and turned about. */
public final class EdgesOfBoatsTest extends Edges {
    private static final String TEN = "a+000,b+000,c+000,d+000,e+000,f+000,g+000,h+000,i+000,j+000";

    public static void main(String[] args) {
        runAll(EdgesOfBoatsTest.class, 9, 13);
    }

    /** A text is at fault at this byte; the tape is empty then, and nothing of the text came. */
    private static void fault(LockStaircase x, String text, int at) {
        int boats = x.count(1);
        due(tell(x, text), -100 - at);
        due(x.count(2), 0);
        due(x.count(1), boats);
    }

    /** "BOATS, one or more": an empty TAPE ends too early. */
    static void p09NoText() {
        LockStaircase x = new LockStaircase();
        due(x.boats(), -100);
        due(x.boats(), -100);
    }

    /** "BOATS, one or more": one. */
    static void p09OneBoat() {
        LockStaircase x = new LockStaircase();
        due(tell(x, "a+000"), 1);
        due(x.count(1), 1);
    }

    /** "BOATS, one or more": ten, as many as THE TAPE can hold. */
    static void p09TenBoats() {
        LockStaircase x = new LockStaircase();
        due(tell(x, TEN), 10);
        due(x.count(1), 10);
    }

    /** "THE TAPE holds 0 .. 60 bytes": a text of all sixty. */
    static void p09SixtyBytes() {
        LockStaircase x = new LockStaircase();
        due(tell(x, "aa+000,b+000,c+000,d+000,e+000,f+000,g+000,h+000,i+000,j-982"), 10);
        due(x.boat(9, 0), 9);
        due(x.boat(9, 1), 8);
        due(x.boat(9, 2), 0);
        due(x.boat(9, 3), 2);
    }

    /** "NAMES (1 .. 4 letters a .. z)": none is too few. */
    static void p09NoLetter() {
        LockStaircase x = new LockStaircase();
        fault(x, "+000", 0);
        fault(x, "a+000,-000", 6);
    }

    /** "NAMES (1 .. 4 letters a .. z)": one, and four. */
    static void p09OneAndFourLetters() {
        LockStaircase x = new LockStaircase();
        due(tell(x, "q+000,wxyz-000"), 2);
        due(x.boat(0, 4), 1);
        due(x.boat(1, 4), 4);
    }

    /** "FAULT: the first byte with which no such text goes on (a fifth letter ..)" */
    static void p09FifthLetter() {
        LockStaircase x = new LockStaircase();
        fault(x, "abcde+000", 4);
        fault(x, "abcde", 4);
        fault(x, "a+000,abcde+000", 10);
    }

    /** "letters a .. z": the bytes beside them, and great ones, are none. */
    static void p09LettersFromAToZ() {
        LockStaircase x = new LockStaircase();
        fault(x, "`+000", 0);
        fault(x, "{+000", 0);
        fault(x, "A+000", 0);
        fault(x, "Z+000", 0);
        fault(x, "a`+000", 1);
        fault(x, "abc{+000", 3);
        due(tell(x, "az+000,za+000"), 2);
    }

    /** "+ (up) or - (down)": nothing else, nor the bytes beside them. */
    static void p09Way() {
        LockStaircase x = new LockStaircase();
        fault(x, "a*000", 1);
        fault(x, "a,000", 1);
        fault(x, "a.000", 1);
        fault(x, "a0000", 1);
        fault(x, "a+-00", 2);
        due(tell(x, "a+000,b-000"), 2);
        due(x.boat(0, 2), 1);
        due(x.boat(1, 2), 0);
    }

    /** "a SIZE (0 .. 9)", "a figure each" */
    static void p09Size() {
        LockStaircase x = new LockStaircase();
        fault(x, "a+/00", 2);
        fault(x, "a+:00", 2);
        fault(x, "a+a00", 2);
        due(tell(x, "a+000,b+900"), 2);
        due(x.boat(0, 0), 0);
        due(x.boat(1, 0), 9);
    }

    /** "a RANK (0 .. 9)", "a figure each" */
    static void p09Rank() {
        LockStaircase x = new LockStaircase();
        fault(x, "a+0/0", 3);
        fault(x, "a+0:0", 3);
        fault(x, "a+0a0", 3);
        due(tell(x, "a+000,b+090"), 2);
        due(x.boat(0, 1), 0);
        due(x.boat(1, 1), 9);
    }

    /** "FAULT: .. (.. a figure of a REACH that isn't there)" */
    static void p09ReachThatIsNotThere() {
        LockStaircase x = new LockStaircase();
        for (int n = 1; n <= 6; n++) {
            x.locks(n);
            fault(x, "a+00" + (n + 1), 4);
            fault(x, "a+009", 4);
            due(tell(x, "a+00" + n + ",b-000"), 2);
            due(x.boat(0, 3), n);
            due(x.boat(1, 3), 0);
        }
        fault(x, "a+00/", 4);
        fault(x, "a+00:", 4);
        fault(x, "c+000,a+007", 10);
    }

    /** "a figure each": a second one is a FAULT. */
    static void p09OneFigureEach() {
        LockStaircase x = new LockStaircase();
        fault(x, "a+0000", 5);
        fault(x, "a+000,b+0000", 11);
    }

    /** "no blanks" */
    static void p09NoBlanks() {
        LockStaircase x = new LockStaircase();
        fault(x, " a+000", 0);
        fault(x, "a +000", 1);
        fault(x, "a+ 000", 2);
        fault(x, "a+0 00", 3);
        fault(x, "a+00 0", 4);
        fault(x, "a+000 ", 5);
        fault(x, "a+000, b+000", 6);
    }

    /** "parted by a comma": by one, and by nothing else. */
    static void p09PartedByAComma() {
        LockStaircase x = new LockStaircase();
        fault(x, ",a+000", 0);
        fault(x, "a+000,,b+000", 6);
        fault(x, "a+000;b+000", 5);
        fault(x, "a+000b+000", 5);
        fault(x, "a+000+b+000", 5);
        fault(x, "a+000-b+000", 5);
        due(tell(x, "a+000,b+000"), 2);
    }

    /** "or the length, if it ends too early": wherever it ends. */
    static void p09EndsTooEarly() {
        String text = "abcd-982,xy+130,z+001";
        for (int length = 0; length <= text.length(); length++) {
            LockStaircase x = new LockStaircase();
            String start = text.substring(0, length);
            boolean whole = length == 8 || length == 15 || length == 21;
            due(tell(x, start), whole ? start.split(",").length : -100 - length);
            due(x.count(2), 0);
        }
    }

    /** "or the length, if it ends too early": at the most that THE TAPE holds. */
    static void p09EndsTooEarlyAtSixty() {
        LockStaircase x = new LockStaircase();
        fault(x, TEN + ",", 60);
        fault(x, "aa+000,b+000,c+000,d+000,e+000,f+000,g+000,h+000,i+000,jk+98", 60);
    }

    /** "All of it comes, or nothing." */
    static void p09AllOrNothing() {
        LockStaircase x = canal(2, "a+111,b-222");
        String before = picture(x);
        fault(x, "c+000,a-992,d+00", 16);
        fault(x, "a-992,b+000,c+009", 16);
        holds(picture(x).equals(before));
    }

    /** "A NAME that is there already: that BOAT becomes so." */
    static void p09NameThatIsThere() {
        LockStaircase x = canal(2, "a+120,b-341");
        due(tell(x, "a-562"), 1);
        due(x.count(1), 2);
        due(x.boat(0, 0), 5);
        due(x.boat(0, 1), 6);
        due(x.boat(0, 2), 0);
        due(x.boat(0, 3), 2);
        due(x.boat(1, 0), 3);
    }

    /** "A NAME told twice in one text: the latter counts" */
    static void p09ToldTwiceTheLatterCounts() {
        LockStaircase x = new LockStaircase();
        tell(x, "a+120,b+000,a-562");
        due(x.count(1), 2);
        due(x.boat(0, 0), 5);
        due(x.boat(0, 1), 6);
        due(x.boat(0, 2), 0);
        due(x.boat(0, 3), 2);
    }

    /** "A NAME told twice in one text: .. both are told" */
    static void p09ToldTwiceBothAreTold() {
        LockStaircase x = new LockStaircase();
        due(tell(x, "a+120,a-562"), 2);
        due(tell(x, "a+000,a+000,a+000,a+000,a+000,a+000,a+000,a+000,a+000,a+000"), 10);
        due(x.count(1), 1);
    }

    /** "BOATS .. 12 at most" */
    static void p09Twelve() {
        LockStaircase x = canal(2, TEN);
        due(tell(x, "k+000,l+002"), 2);
        due(x.count(1), 12);
        due(x.boat(11, 3), 2);
    }

    /** "FULL: there would be 13." Nothing of the text comes, nor becomes so. */
    static void p09Thirteen() {
        LockStaircase x = canal(2, TEN);
        due(tell(x, "a-991,k+000,l+000,m+000"), FULL);
        due(x.count(1), 10);
        due(x.boat(0, 0), 0);
        due(tell(x, "k+000,l+000"), 2);
        due(tell(x, "m+000"), FULL);
        due(x.count(1), 12);
        due(named(x, "m"), NOT);
    }

    /** "FULL: there would be 13": as many more as one text can tell. */
    static void p09TwentyTwo() {
        LockStaircase x = canal(2, TEN);
        tell(x, "k+000,l+000");
        due(tell(x, "m+000,n+000,o+000,p+000,q+000,r+000,s+000,t+000,u+000,v+000"), FULL);
        due(x.count(1), 12);
        due(x.boat(11, 10), 'l');
        due(tell(x, "l+900,a+900"), 2);
    }

    /** "(FULL by unlike NAMES)" */
    static void p09FullByUnlikeNames() {
        LockStaircase x = canal(2, TEN);
        tell(x, "k+000");
        due(tell(x, "l+000,l-111,a+000,k+000"), 4);
        due(x.count(1), 12);
        due(tell(x, "a+001,b+001,c+001,a+002"), 4);
        due(tell(x, "m+000,m+000"), FULL);
    }

    /** "FAULT comes ahead of FULL.", "boats(): the FAULT, then FULL" */
    static void p09FaultAheadOfFull() {
        LockStaircase x = canal(2, TEN);
        due(tell(x, "k+000,l+000,m+000,n+00"), -122);
        due(tell(x, "k+000,l+000,m+000,"), -118);
        due(tell(x, "k+000,l+000,m+003"), -116);
        due(x.count(1), 10);
    }

    /** "THE TAPE is empty behind each call that reads it": behind one that told BOATS. */
    static void p09TapeIsEmptyBehindBoats() {
        LockStaircase x = new LockStaircase();
        due(tell(x, "a+000"), 1);
        due(x.count(2), 0);
        due(x.boats(), -100);
    }

    /** "THE TAPE is empty .. by a FAULT .. too" */
    static void p09TapeIsEmptyByAFault() {
        LockStaircase x = new LockStaircase();
        due(tell(x, "a+000,"), -106);
        due(x.count(2), 0);
        due(tell(x, "b+000"), 1);
    }

    /** "THE TAPE is empty .. by all that is refused behind its text, too" */
    static void p09TapeIsEmptyByFull() {
        LockStaircase x = canal(2, TEN);
        due(tell(x, "k+000,l+000,m+000"), FULL);
        due(x.count(2), 0);
        due(tell(x, "k+000"), 1);
    }

    /** "THE TAPE .. stays just where that is said": a call that reads none of it leaves it. */
    static void p09TapeStaysByOtherCalls() {
        LockStaircase x = canal(2, "a+000");
        type(x, "b-1");
        x.pass(0);
        x.image();
        x.undo();
        x.day(1, 1);
        x.leaves(0);
        x.locks(1);
        due(x.count(2), 3);
        due(tell(x, "01"), 1);
        due(x.boat(0, 0), 1);
    }

    /** "numbered from 0 by their NAMES, the least first" */
    static void p10NumberedByNames() {
        LockStaircase x = canal(2, "z+000,a+100,m+200,yzzz+300");
        due(x.boat(0, 0), 1);
        due(x.boat(1, 0), 2);
        due(x.boat(2, 0), 3);
        due(x.boat(3, 0), 0);
        tell(x, "b+400");
        due(x.boat(1, 0), 4);
        due(x.boat(2, 0), 2);
    }

    /** "The least NAME is the first by the alphabet, one that another begins with ahead of that (in numbers ..)" */
    static void p10NameThatAnotherBeginsWith() {
        LockStaircase x = canal(2, "ab+000,abcd+100,b+200,a+300,abc+400,azzz+500,aa+600");
        int[] sizes = {3, 6, 0, 4, 1, 5, 2};
        for (int boat = 0; boat < sizes.length; boat++) {
            due(x.boat(boat, 0), sizes[boat]);
        }
    }

    /** "BAD (-1): no such one": a BOAT. */
    static void p10NoSuchBoat() {
        LockStaircase x = new LockStaircase();
        due(x.boat(0, 0), BAD);
        tell(x, "a+000,b+100");
        due(x.boat(-1, 0), BAD);
        due(x.boat(2, 0), BAD);
        due(x.boat(LEAST_INT, 0), BAD);
        due(x.boat(MOST_INT, 0), BAD);
        due(x.boat(1, 0), 1);
    }

    /** "BOATS .. 12 at most": the twelfth is asked for, there is no thirteenth. */
    static void p10Twelfth() {
        LockStaircase x = canal(2, TEN);
        tell(x, "k+000,l+900");
        due(x.boat(11, 0), 9);
        due(x.boat(11, 10), 'l');
        due(x.boat(12, 0), BAD);
    }

    /** "SIZE (what 0) .. how many letters its NAME has (4), its letters (10 ..)": 5 .. 9 and below 0 are none. */
    static void p10NoSuchWhat() {
        LockStaircase x = canal(2, "abcd+000");
        due(x.boat(0, -1), BAD);
        due(x.boat(0, LEAST_INT), BAD);
        for (int what = 5; what <= 9; what++) {
            due(x.boat(0, what), BAD);
        }
    }

    /** "NOT: no such letter." */
    static void p10NoSuchLetter() {
        LockStaircase x = canal(2, "a+000,bc+000,def+000,ghij+000");
        for (int boat = 0; boat < 4; boat++) {
            due(x.boat(boat, 4), boat + 1);
            holds(x.boat(boat, 10 + boat) > 0);
            due(x.boat(boat, 11 + boat), NOT);
            due(x.boat(boat, 14), NOT);
            due(x.boat(boat, MOST_INT), NOT);
        }
    }

    /** "boat(): letters are told as bytes (97 for a)" */
    static void p10LettersAreBytes() {
        LockStaircase x = canal(2, "abyz+000");
        due(x.boat(0, 10), 97);
        due(x.boat(0, 11), 98);
        due(x.boat(0, 12), 121);
        due(x.boat(0, 13), 122);
    }

    /** "of several the first as the call's words name them": BAD, then NOT. */
    static void p10BadAheadOfNot() {
        LockStaircase x = canal(2, "a+000");
        due(x.boat(1, 11), BAD);
        due(x.boat(-1, 14), BAD);
    }

    /** "a WAY (1 up, 0 down)" */
    static void p10WayUpAndDown() {
        LockStaircase x = canal(2, "a+000,b-000");
        due(x.boat(0, 2), 1);
        due(x.boat(1, 2), 0);
    }

    /** "NOT: there is none": of no BOATS, and of others. */
    static void p11None() {
        LockStaircase x = new LockStaircase();
        due(named(x, "a"), NOT);
        tell(x, "ab+000,c+000");
        due(named(x, "b"), NOT);
        due(named(x, "a"), NOT);
        due(named(x, "abc"), NOT);
        due(named(x, "ab"), 0);
        due(named(x, "c"), 1);
    }

    /** "NOT: .. (nor where it is no NAME)": an empty TAPE. */
    static void p11NoText() {
        LockStaircase x = canal(2, "a+000");
        due(x.find(), NOT);
    }

    /** "NOT: .. (nor where it is no NAME)": a fifth letter, though four of them are one. */
    static void p11FifthLetter() {
        LockStaircase x = canal(2, "abcd+000");
        due(named(x, "abcd"), 0);
        due(named(x, "abcde"), NOT);
        due(named(x, "abcda"), NOT);
    }

    /** "NOT: .. (nor where it is no NAME)": a byte that is no letter, before, behind or within. */
    static void p11OtherBytes() {
        LockStaircase x = canal(2, "a+000,ab+000");
        due(named(x, "a+000"), NOT);
        due(named(x, "a,"), NOT);
        due(named(x, "a "), NOT);
        due(named(x, " a"), NOT);
        due(named(x, "a b"), NOT);
        due(named(x, "A"), NOT);
        due(named(x, "a`"), NOT);
        due(named(x, "a{"), NOT);
    }

    /** "find() empties THE TAPE whatever it answers." */
    static void p11EmptiesTheTape() {
        LockStaircase x = canal(2, "a+000");
        due(named(x, "a"), 0);
        due(x.count(2), 0);
        due(named(x, "b"), NOT);
        due(x.count(2), 0);
        due(named(x, "abcdefgh"), NOT);
        due(x.count(2), 0);
        due(named(x, "+"), NOT);
        due(x.count(2), 0);
    }

    /** "NAMES (1 .. 4 letters a .. z)": the ends of the alphabet, of each length. */
    static void p11EndsOfTheAlphabet() {
        LockStaircase x = canal(2, "zzzz+000,zzz+000,zz+000,z+000,a+000,aa+000,aaaa+000,aaa+000");
        String[] names = {"a", "aa", "aaa", "aaaa", "z", "zz", "zzz", "zzzz"};
        for (int boat = 0; boat < names.length; boat++) {
            due(named(x, names[boat]), boat);
        }
    }

    /** "BAD (-1): no such one": a BOAT. */
    static void p12NoSuchBoat() {
        LockStaircase x = new LockStaircase();
        due(x.leaves(0), BAD);
        tell(x, "a+000,b+000");
        due(x.leaves(2), BAD);
        due(x.leaves(-1), BAD);
        due(x.leaves(LEAST_INT), BAD);
        due(x.leaves(MOST_INT), BAD);
        due(x.count(1), 2);
    }

    /** "A BOAT is gone: how many there are.": down to none. */
    static void p12TheLastOne() {
        LockStaircase x = canal(2, "a+000,b+000");
        due(x.leaves(1), 1);
        due(x.leaves(0), 0);
        due(x.leaves(0), BAD);
        due(x.count(1), 0);
        due(x.ofReach(0, 4), 0);
    }

    /** "numbered from 0 by their NAMES": of the others, whichever is gone. */
    static void p12NumbersOfTheOthers() {
        LockStaircase x = canal(2, "a+190,b-281,c+372,d-460");
        due(x.leaves(1), 3);
        due(x.boat(1, 10), 'c');
        due(x.boat(1, 0), 3);
        due(x.boat(1, 1), 7);
        due(x.boat(1, 2), 1);
        due(x.boat(1, 3), 2);
        due(x.leaves(0), 2);
        due(x.boat(0, 10), 'c');
        due(x.boat(1, 10), 'd');
        due(x.boat(1, 2), 0);
        due(x.leaves(1), 1);
        due(x.boat(0, 10), 'c');
        due(x.boat(1, 0), BAD);
    }

    /** "BOATS .. 12 at most": where one is gone another may come. */
    static void p12RoomForAnother() {
        LockStaircase x = canal(2, TEN);
        tell(x, "k+000,l+000");
        due(tell(x, "m+000"), FULL);
        due(x.leaves(11), 11);
        due(tell(x, "m+000"), 1);
        due(x.leaves(0), 11);
        due(tell(x, "a+000"), 1);
        due(x.count(1), 12);
    }

    /** "BAD (-1): no such one": a BOAT. */
    static void p13NoSuchBoat() {
        LockStaircase x = new LockStaircase();
        due(x.about(0), BAD);
        tell(x, "a+000,b-000");
        due(x.about(2), BAD);
        due(x.about(-1), BAD);
        due(x.about(LEAST_INT), BAD);
        due(x.about(MOST_INT), BAD);
        due(x.boat(0, 2), 1);
        due(x.boat(1, 2), 0);
    }

    /** "The other WAY for a BOAT: the WAY it has then." */
    static void p13TheOtherWay() {
        LockStaircase x = canal(2, "a+000,b-000");
        due(x.about(0), 0);
        due(x.boat(0, 2), 0);
        due(x.about(0), 1);
        due(x.about(1), 1);
        due(x.boat(1, 2), 1);
        due(x.boat(0, 2), 1);
    }
}
