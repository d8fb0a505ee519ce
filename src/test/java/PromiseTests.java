import java.util.NoSuchElementException;

/** One method a promise: ordinary inputs, the edges that the document names, wrong inputs. */
public final class PromiseTests {
    private static final int NONE = -1;
    private static final int HIDDEN = -1000000;
    private static final int LEAST = Integer.MIN_VALUE;
    private static final int MOST = Integer.MAX_VALUE;

    /** A ring of four desks, B's door to the empty one of length 2. */
    private static final String RING = "AB.C;ab,bc2,cd,da";
    /** Four desks in a row; A and B quarrel. */
    private static final String ROW = "ABC.;ab,bc,cd;AB";
    /** Twelve desks in a ring. */
    private static final String BIG = "ABCDEFGHIJK.;ab,bc,cd,de,ef,fg,gh,hi,ij,jk,kl,la";
    /** Two rows of three with all doors of a grid. */
    private static final String GRID = "ABCDE.;ab,bc,de,ef,ad,be,cf";
    /** A ring of six with a way of two across. */
    private static final String THETA = "ABCDEF.;ab,bc,cd,de,ef,fa,ag,gd";

    /** A's door to b is long, the way through B's desk short. */
    private static final String ROUND = "A.B.;ab9,bc,ca,cd";

    private static int promise;
    private static int wrong;
    private static int asked;

    private static void due(String call, long got, long want) {
        asked++;
        if (got != want) {
            wrong++;
            System.out.println("promise " + promise + ": " + call + " answered " + got + ", due is " + want);
        }
    }

    private static void due(String call, boolean got, boolean want) {
        due(call, got ? 1 : 0, want ? 1 : 0);
    }

    private static int feed(DeskMoves x, String s) {
        int answer = x.told(3);
        for (int from = 0; from < s.length(); from += 20) {
            int[] five = new int[5];
            for (int i = 0; i < 20 && from + i < s.length(); i++) {
                five[i / 4] |= (s.charAt(from + i) & 255) << 24 - i % 4 * 8;
            }
            answer = x.feed(five[0], five[1], five[2], five[3], five[4]);
        }
        return answer;
    }

    private static int text(DeskMoves x, int sort, String s) {
        x.end(0);
        feed(x, s);
        return x.text(sort);
    }

    private static DeskMoves office(String s) {
        DeskMoves x = new DeskMoves();
        if (text(x, 0, s) < 2) {
            wrong++;
            System.out.println("promise " + promise + ": not taken as an office: " + s);
        }
        return x;
    }

    /** An office with one law that holds. */
    private static DeskMoves ruled(String s, String law) {
        DeskMoves x = office(s);
        if (text(x, 1, law) != 0 || !x.law(0)) {
            wrong++;
            System.out.println("promise " + promise + ": not taken as a law: " + law);
        }
        return x;
    }

    /** Wishes for the desks from a on: letters, dots for empty ones, blanks for nothing. */
    private static void wishes(DeskMoves x, String s) {
        for (int d = 0; d < s.length(); d++) {
            x.wish(d, NONE);
        }
        for (int d = 0; d < s.length(); d++) {
            char c = s.charAt(d);
            due("wish(" + d + ") of " + s, x.wish(d, c == ' ' ? NONE : c == '.' ? 12 : c - 'A'), true);
        }
    }

    private static String seats(DeskMoves x) {
        StringBuilder s = new StringBuilder();
        for (int d = 0; d < x.told(0); d++) {
            s.append(x.desk(d) == NONE ? '.' : (char) ('A' + x.desk(d)));
        }
        return s.toString();
    }

    private static void sits(DeskMoves x, String want) {
        if (!seats(x).equals(want)) {
            wrong++;
            System.out.println("promise " + promise + ": they sit " + seats(x) + ", due is " + want);
        }
    }

    private static boolean throwsAt(DeskMoves x, int desk) {
        try {
            x.desk(desk);
            return false;
        } catch (NoSuchElementException e) {
            return true;
        }
    }

    private static void newObject() {
        DeskMoves x = new DeskMoves();
        int[] told = {0, 0, 0, 0, NONE, 0, NONE};
        for (int i = 0; i < told.length; i++) {
            due("told(" + i + ")", x.told(i), told[i]);
        }
        due("desk(0) throws", throwsAt(x, 0), true);
        due("undo", x.undo(), NONE);
        due("image", x.image(), NONE);
        due("back", x.back(), NONE);
        due("holds", x.holds(), HIDDEN);
        due("law", x.law(NONE), false);
    }

    private static void feeding() {
        DeskMoves x = new DeskMoves();
        due("nothing", x.feed(0, 0, 0, 0, 0), 0);
        due("the highest first, 0 left out", x.feed(0x412E0000, 0x003B6100, 0, 0, 0x00000062), 5);
        due("that is A.;ab", x.text(0), 2);
        due("clerk", x.desk(0), 0);
        due("a negative number has four bytes too", x.feed(-1, -1, -1, -1, -1), 20);
        due("a high byte is no sign of a text", x.fault(0), 0);
        x.end(0);
        for (int i = 1; i <= 7; i++) {
            due("feed", x.feed(0x41414141, 0x41414141, 0x41414141, 0x41414141, 0x41414141), 20 * i);
        }
        x.end(139);
        due("twenty bytes more reach 159", x.feed(0x41414141, 0x41414141, 0x41414141, 0x41414141, 0x41414141), 159);
        due("and not twice", x.feed(0x41414141, 0x41414141, 0x41414141, 0x41414141, 0x41414141), NONE);
        due("nor eight of them", x.feed(0, 0x41414141, 0x41414141, 0, 0), NONE);
        due("nor four", x.feed(0, 0, 0, 0x41414141, 0), NONE);
        x.end(140);
        due("up to 159", x.feed(0x41414141, 0x41414141, 0x41414141, 0x41414141, 0x00414141), 159);
        due("161 are refused", x.feed(0x41000000, 0, 0, 0, 0x41), NONE);
        due("and change nothing", x.told(3), 159);
        due("160 are not", x.feed(0, 0, 0, 0, 0x41), 160);
        due("one more is", x.feed(0x41, 0, 0, 0, 0), NONE);
        due("none more is not", x.feed(0, 0, 0, 0, 0), 160);
    }

    private static void ending() {
        DeskMoves x = new DeskMoves();
        due("end(0) of none", x.end(0), true);
        due("end(1) of none", x.end(1), false);
        feed(x, "A.;ab9;");
        due("longer", x.end(8), false);
        due("below 0", x.end(-1), false);
        due("least", x.end(LEAST), false);
        due("most", x.end(MOST), false);
        due("as long", x.end(7), true);
        due("still a fault", x.fault(0), 7);
        due("shorter", x.end(6), true);
        due("told", x.told(3), 6);
        due("no fault", x.fault(0), NONE);
        due("none", x.end(0), true);
        due("told", x.told(3), 0);
    }

    private static void fault(int sort, String s, int want) {
        DeskMoves x = new DeskMoves();
        feed(x, s);
        due("fault(" + sort + ") of '" + s + "'", x.fault(sort), want);
        due("the tape stays", x.told(3), s.length());
    }

    private static void officeFaults() {
        fault(0, "", 0);
        fault(0, "   ", 3);
        fault(0, "A.;ab", NONE);
        fault(0, "M", 0);
        fault(0, "a", 0);
        fault(0, ";", 0);
        fault(0, "A;", 1);
        fault(0, "A.", 2);
        fault(0, "A. ", 3);
        fault(0, "AB;", 2);
        fault(0, "...;", 3);
        fault(0, "A.A", 2);
        fault(0, "ABCDEFGHIJK.;al", NONE);
        fault(0, "ABCDEFGHIJK..", 12);
        fault(0, "............", 12);
        fault(0, "............;", 12);
        fault(0, "ABCDEFGHIJKL;", 12);
        fault(0, "A.;;", 3);
        fault(0, "A.;c", 3);
        fault(0, "A.;a", 4);
        fault(0, "A.;aa", 4);
        fault(0, "A.;ab,", 6);
        fault(0, "A.;ab,ab", 7);
        fault(0, "A.;ab9,ba", 8);
        fault(0, "A..;ab,bc,ca", NONE);
        fault(0, "A.;ab0", 5);
        fault(0, "A.;ab9", NONE);
        fault(0, "A.;ab11", 6);
        fault(0, "A.;ab;", 6);
        fault(0, "A.;ab;A", 7);
        fault(0, "A.;ab;AA", 7);
        fault(0, "A.;ab;B", 6);
        fault(0, "AB.;ab;AB1", 9);
        fault(0, "AB.;ab;AB,BA", 11);
        fault(0, "ABC.;ab;AB,BC,CA", NONE);
        fault(0, "AB.;ab;AB;", 9);
        fault(0, "AB.;ab;ab", 7);
        fault(0, " A . ;  a b 9 , ", 16);
        fault(0, "  A  B .; a b , b c 2 ; A B  ", NONE);
        fault(0, "A.;a?", 4);
        fault(0, "A.;ab " + (char) 160, 6);
    }

    private static void lawFaults() {
        fault(1, "", 0);
        fault(1, "y", 1);
        fault(1, "y:", 2);
        fault(1, "Y:1", 0);
        fault(1, "y1", 1);
        fault(1, "y:1234", NONE);
        fault(1, "y:12345", 6);
        fault(1, "y:1 2 3 4 5", 10);
        fault(1, "y:12c", 4);
        fault(1, "y:cc", 3);
        fault(1, "y:a", 2);
        fault(1, "y:c+f-t*l/r+p-b*q", NONE);
        fault(1, "y:-1", 2);
        fault(1, "y:1+", 4);
        fault(1, "y:1+*", 4);
        fault(1, "y:[1", 4);
        fault(1, "y:[1]", NONE);
        fault(1, "y:[1)", 4);
        fault(1, "y:[1=", 4);
        fault(1, "y:[]", 3);
        fault(1, "y:1;", 4);
        fault(1, "y:1;y:2", NONE);
        fault(1, "y:1;z", 4);
        fault(1, "y:1?", 3);
        fault(1, "y:1=1", 5);
        fault(1, "y:1=1;", 5);
        fault(1, "y:1=1=", 5);
        fault(1, "y:1=1?", 6);
        fault(1, "y:1=1?2", NONE);
        fault(1, "y:1=1?2=", 7);
        fault(1, "y:1=1?2?", 7);
        fault(1, "y:1=1?!", 6);
        fault(1, "y:1=1?(", 6);
        fault(1, "y:1=1|2<3&4>5?6", NONE);
        fault(1, "y:1=1|2?", 7);
        fault(1, "y:1=1|?", 6);
        fault(1, "y:1=1|&", 6);
        fault(1, "y:1=1||", 6);
        fault(1, "y:1=1&?", 6);
        fault(1, "y:1=1&|", 6);
        fault(1, "y:1=1&&", 6);
        fault(1, "y:1=?", 4);
        fault(1, "y:1=&", 4);
        fault(1, "y:!?", 3);
        fault(1, "y:!!&", 4);
        fault(1, "y:(?", 3);
        fault(1, "y:()", 3);
        fault(1, "y:1*+", 4);
        fault(1, "y:1+;", 4);
        fault(1, "y:1/;", 4);
        fault(1, "y:1=1?[[[[[[1]]]]]]", NONE);
        fault(1, "y:1=1?[[[[[[[", 12);
        fault(1, "y:[[[[[[1]]]]]]=[[[[[[1]]]]]]?1", NONE);
        fault(1, "y:1=!", 4);
        fault(1, "y:1=(", 4);
        fault(1, "y:!1", 4);
        fault(1, "y:!1;", 4);
        fault(1, "y:!1=1", 6);
        fault(1, "y:!1=1?1", NONE);
        fault(1, "y:(1)", 4);
        fault(1, "y:(1=1)?1", NONE);
        fault(1, "y:(1=1)+", 7);
        fault(1, "y:(1=1)=", 7);
        fault(1, "y:(1=1|!(2=2&3=3))?1", NONE);
        fault(1, "y:(1=1?", 6);
        fault(1, "y:1=1)", 5);
        fault(1, "y:1]", 3);
        fault(1, "y:[[[[[[1]]]]]]", NONE);
        fault(1, "y:[[[[[[[", 8);
        fault(1, "y:!!!!!!1=1?1", NONE);
        fault(1, "y:!!!!!!!", 8);
        fault(1, "y:!!!!!![", 8);
        fault(1, "y:!!!!!!1=[", 10);
        fault(1, "y:((((((1=1))))))?1", NONE);
        fault(1, "y:(((((((", 8);
        fault(1, "y:(!([!", 6);
        fault(1, "y:(!([[[1]]]=1))?1", NONE);
        fault(1, "y:(!([[[[", 8);
        fault(1, "y:!1=1&!1=1&!1=1&!1=1&!1=1&!1=1&!1=1?1", NONE);
        fault(1, "y:[1]+[1]+[1]+[1]+[1]+[1]+[1]", NONE);
        fault(1, "y:(!!!!!1=1)|!!!!!!1=1?1", NONE);
        fault(1, " y : ! ( b > 1 ) ? [ l - r * 2 ] / 9 ", NONE);
    }

    private static void planFaults() {
        fault(2, "", 0);
        fault(2, "Aa", NONE);
        fault(2, "Ll", NONE);
        fault(2, "Ma", 0);
        fault(2, "Am", 1);
        fault(2, "A", 1);
        fault(2, "A A", 2);
        fault(2, "Aa,", 3);
        fault(2, "AaBb", 2);
        fault(2, "Aa,,", 3);
        fault(2, " A a , B b ", NONE);
        StringBuilder forty = new StringBuilder("Aa");
        for (int i = 1; i < 40; i++) {
            forty.append(",Aa");
        }
        fault(2, forty.toString(), NONE);
        fault(2, forty + ",Aa", 119);
        fault(2, forty + ",", 119);
        fault(2, forty + " ", NONE);
    }

    private static void faults() {
        DeskMoves x = new DeskMoves();
        due("no such sort", x.fault(-1), -2);
        due("no such sort", x.fault(3), -2);
        due("no such sort", x.fault(LEAST), -2);
        officeFaults();
        lawFaults();
        planFaults();
    }

    private static void texts() {
        DeskMoves x = new DeskMoves();
        due("empty", x.text(0), NONE);
        due("a law without an office", text(x, 1, "y:1"), 0);
        due("the tape is empty then", x.told(3), 0);
        due("no plan without an office", text(x, 2, "Aa"), NONE);
        due("the tape stays", x.told(3), 2);
        due("desks", text(x, 0, RING), 4);
        due("tape", x.told(3), 0);
        due("a fault", text(x, 0, "A.;aa"), NONE);
        due("the office stays", x.told(0), 4);
        due("the tape stays", x.told(3), 5);
        feed(x, "b");
        due("no such sort", x.text(3), NONE);
        due("no such sort", x.text(-1), NONE);
        due("the tape stays", x.told(3), 6);
        due("laws", text(x, 1, "y:2"), 1);
        due("laws", text(x, 1, "y:3"), 2);
        due("a law with a fault", text(x, 1, "y:"), NONE);
        due("laws", text(x, 1, "y:0"), 3);
        due("a fifth law", text(x, 1, "y:5"), NONE);
        due("the tape stays", x.told(3), 3);
        due("laws told", x.told(2), 4);
        due("moves", text(x, 2, "Cc,Ad"), 2);
        due("a plan with a fault", text(x, 2, "Cc,"), NONE);
        due("the plan stays", x.told(4), 2);
        x.law(3);
        due("nothing is let", x.all(0), 1);
        x.set(0, 0, 7);
        x.set(0, 1, 7);
        x.wish(0, 1);
        x.worth(0, 0, 9);
        x.law(NONE);
        x.move(2, 2);
        x.law(3);
        x.image();
        due("an office in place of the one ahead", text(x, 0, RING), 4);
        sits(x, "AB.C");
        due("laws stay", x.told(2), 4);
        due("none holds", x.told(6), NONE);
        due("no plan", x.told(4), NONE);
        due("no diary", x.told(5), 0);
        due("no image", x.back(), NONE);
        due("rank", x.clerk(0, 1), 0);
        due("papers", x.clerk(0, 2), 1);
        due("wishes", x.done(), 1);
        due("worths", x.seated(NONE), 0);
        due("best", x.best(NONE), 0);
        due("all", x.all(0), 12);
        due("another, smaller", text(x, 0, "A.B;ab,bc"), 3);
        due("all of that", x.all(0), 3);
        due("far", x.all(1), 1);
        due("count", x.count(1), 2);
        due("best of that", x.best(NONE), 0);
        due("another, larger", text(x, 0, GRID), 6);
        due("all of that", x.all(0), 360);
    }

    private static void desks() {
        DeskMoves x = office("A.L;ab");
        due("A", x.desk(0), 0);
        due("empty", x.desk(1), NONE);
        due("L", x.desk(2), 11);
        for (int d : new int[] {-1, 3, 12, LEAST, MOST}) {
            due("desk(" + d + ") throws", throwsAt(x, d), true);
        }
        for (int d = 0; d < 12; d++) {
            due("desk " + d, office(BIG).desk(d), d == 11 ? NONE : d);
        }
    }

    private static void doors() {
        DeskMoves x = office("A..;ab,cb9");
        due("1 without", x.door(0, 1), 1);
        due("the other way", x.door(1, 0), 1);
        due("told", x.door(1, 2), 9);
        due("the other way", x.door(2, 1), 9);
        due("none", x.door(0, 2), NONE);
        due("alike", x.door(1, 1), NONE);
        due("no such", x.door(0, 3), NONE);
        due("no such", x.door(-1, 0), NONE);
        due("no such", x.door(LEAST, MOST), NONE);
        due("no office", new DeskMoves().door(0, 1), NONE);
    }

    private static void quarrels() {
        DeskMoves x = office("ABC.;ab;CA");
        due("A and C", x.quarrel(0, 2), 1);
        due("C and A", x.quarrel(2, 0), 1);
        due("A and B", x.quarrel(0, 1), 0);
        due("alike", x.quarrel(1, 1), NONE);
        due("not there", x.quarrel(0, 3), NONE);
        due("not there", x.quarrel(3, 0), NONE);
        due("no such", x.quarrel(-1, 0), NONE);
        due("no such", x.quarrel(0, 12), NONE);
        due("no such", x.quarrel(0, 32), NONE);
        due("no office", new DeskMoves().quarrel(0, 1), NONE);
    }

    private static void setting() {
        DeskMoves x = office(RING);
        due("rank", x.set(0, 0, 9), true);
        due("papers", x.set(0, 1, 0), true);
        due("rank is told", x.clerk(0, 1), 9);
        due("papers are told", x.clerk(0, 2), 0);
        due("another's stay", x.clerk(1, 1) * 10 + x.clerk(1, 2), 1);
        due("above", x.set(0, 0, 10), false);
        due("above", x.set(0, 1, 10), false);
        due("below", x.set(0, 0, -1), false);
        due("what", x.set(0, 2, 1), false);
        due("what", x.set(0, -1, 1), false);
        due("not there", x.set(3, 0, 1), false);
        due("no such", x.set(12, 0, 1), false);
        due("no such", x.set(-1, 0, 1), false);
        due("rank stays", x.clerk(0, 1), 9);
        due("papers weigh", x.set(1, 1, 9), true);
        due("cost", x.move(1, 2), 18);
        due("no office", new DeskMoves().set(0, 0, 1), false);
    }

    private static void clerks() {
        DeskMoves x = office("CA.B;ab,ac,ad,bd;CA,AB");
        due("desk of C", x.clerk(2, 0), 0);
        due("rank", x.clerk(2, 1), 0);
        due("papers", x.clerk(2, 2), 1);
        due("beside C", x.clerk(2, 3), 2);
        due("foes beside C", x.clerk(2, 4), 1);
        due("beside A", x.clerk(0, 3), 2);
        due("foes beside A", x.clerk(0, 4), 2);
        due("foes beside B", x.clerk(1, 4), 1);
        due("what", x.clerk(0, 5), NONE);
        due("what", x.clerk(0, -1), NONE);
        due("not there", x.clerk(3, 0), NONE);
        due("no such", x.clerk(-1, 0), NONE);
        due("no such", x.clerk(MOST, 0), NONE);
        due("no office", new DeskMoves().clerk(0, 0), NONE);
    }

    private static void laws() {
        DeskMoves x = new DeskMoves();
        text(x, 1, "y:0");
        due("no office", x.law(0), false);
        due("no office", x.law(NONE), false);
        text(x, 0, RING);
        due("there is one", x.law(0), true);
        due("it holds", x.told(6), 0);
        due("it lets nothing", x.let(1, 2), 0);
        due("no such", x.law(1), false);
        due("no such", x.law(-2), false);
        due("no such", x.law(LEAST), false);
        due("it holds still", x.told(6), 0);
        due("none", x.law(NONE), true);
        due("none holds", x.told(6), NONE);
        due("all is let", x.let(1, 2), 1);
    }

    private static void letBy(String office, String law, int clerk, int desk, int want) {
        due("let by " + law, ruled(office, law).let(clerk, desk), want);
    }

    /** Whether the sum is that number, asked of the move of A from b to d. */
    private static void sumIs(String sum, int number) {
        String told = number < 0 ? "0-" + -number : "" + number;
        // A number told as a text has four digits at most: greater ones by thousands.
        if (Math.abs(number) > 9999) {
            told = (number < 0 ? "0-" : "") + Math.abs(number) / 1000 + "*1000" + (number < 0 ? "-" : "+") + Math.abs(number) % 1000;
        }
        String office = "BACD..;ab,bd,da7,be3,bf,ef,ec,ea,ed;AB,AD,AC";
        DeskMoves x = office(office);
        x.set(0, 0, 4);
        x.set(0, 1, 6);
        due("a law: " + sum + "=" + told, text(x, 1, "y:" + sum + "=" + told + "?1;y:0"), 0);
        x.law(0);
        due(sum + " is " + told, x.let(0, 4), 1);
    }

    private static void letting() {
        DeskMoves x = office(RING);
        due("to the empty one", x.let(1, 2), 1);
        due("from the other side", x.let(2, 2), 1);
        due("no door", x.let(0, 2), NONE);
        due("not empty", x.let(0, 1), NONE);
        due("its own", x.let(0, 0), NONE);
        due("not there", x.let(3, 2), NONE);
        due("no such desk", x.let(1, 4), NONE);
        due("no such", x.let(-1, 2), NONE);
        due("no such", x.let(1, -1), NONE);
        due("no such", x.let(LEAST, MOST), NONE);
        due("no office", new DeskMoves().let(0, 1), NONE);
        letBy(RING, "y:1", 1, 2, 1);
        letBy(RING, "y:0", 1, 2, 0);
        letBy(RING, "y:0-1", 1, 2, 0);
        letBy(RING, "y:0", 0, 2, NONE);
        letBy(RING, "y:c=2?1", 1, 2, 0);
        letBy(RING, "y:c=2?1", 2, 2, 1);
        letBy(RING, "y:c=2?1;y:l=2?1", 1, 2, 1);
        letBy(RING, "y:c=1?0;y:1", 1, 2, 0);
        letBy(RING, "y:!c=1?1", 1, 2, 0);
        letBy(RING, "y:!c=1|c=1?1", 1, 2, 1);
        letBy(RING, "y:c=1|c=1&c=2?1", 1, 2, 1);
        letBy(RING, "y:(c=1|c=1)&c=2?1", 1, 2, 0);
        letBy(RING, "y:!(c=2|c=3)?1", 1, 2, 1);
        letBy(RING, "y:!!c=1?1", 1, 2, 1);
        letBy(RING, "y:c<1?1", 1, 2, 0);
        letBy(RING, "y:c>1?1", 1, 2, 0);
        letBy(RING, "y:c>0&c<2?1", 1, 2, 1);
        letters();
        sums();
    }

    private static void letters() {
        sumIs("c", 0);
        sumIs("f", 1);
        sumIs("t", 4);
        sumIs("l", 3);
        sumIs("r", 4);
        sumIs("p", 6);
        // Beside e sit B (a), C (c), D (d), and A itself (b), who is no other.
        sumIs("b", 3);
        sumIs("q", 3);
        letBy("ABC.;ab,bd,cd;AB", "y:q=0&b=1?1", 1, 3, 1);
        letBy("ABC.;ab,bd,cd;BC", "y:q=1&b=1?1", 1, 3, 1);
    }

    private static void sums() {
        sumIs("2+3*4", 14);
        sumIs("20-3-4", 13);
        sumIs("[2+3]*4", 20);
        sumIs("7/2*2", 6);
        sumIs("[0-7]/2", -3);
        sumIs("7/[0-2]", -3);
        sumIs("5/0", 0);
        sumIs("5/0+1", 1);
        sumIs("0012", 12);
        sumIs("1 2", 12);
        sumIs("9999*9999", 1000000);
        sumIs("9999*9999-1", 999999);
        sumIs("0-9999*9999", -1000000);
        sumIs("0-9999*9999-9999*9999", -1000000);
        sumIs("0-9999*9999-5+7", -999993);
        sumIs("999*999*999/1000", 1000);
        sumIs("[9999*9999]*[9999*9999]", 1000000);
        sumIs("[0-9999*9999]*[9999*9999]", -1000000);
        sumIs("1000*1000+0", 1000000);
        sumIs("1000*1000+1-1", 999999);
    }

    private static void moving() {
        DeskMoves x = office(RING);
        due("no door", x.move(0, 2), NONE);
        due("not empty", x.move(0, 1), NONE);
        due("not there", x.move(3, 2), NONE);
        due("no desk", x.move(1, 4), NONE);
        due("no such", x.move(-1, -1), NONE);
        sits(x, "AB.C");
        due("no diary", x.told(5), 0);
        due("cost", x.move(1, 2), 2);
        sits(x, "A.BC");
        due("clerk", x.clerk(1, 0), 2);
        x.set(0, 1, 0);
        due("without papers", x.move(0, 1), 0);
        sits(x, ".ABC");
        x.set(2, 1, 9);
        due("cost", x.move(2, 0), 9);
        sits(x, "CAB.");
        DeskMoves y = ruled(RING, "y:2-l");
        due("not let", y.move(1, 2), NONE);
        sits(y, "AB.C");
        due("let", y.move(2, 2), 1);
        sits(y, "ABC.");
        due("no office", new DeskMoves().move(0, 1), NONE);
    }

    private static void undoing() {
        DeskMoves x = office(RING);
        due("none", x.undo(), NONE);
        x.move(1, 2);
        x.move(0, 1);
        x.move(2, 0);
        text(x, 1, "y:0");
        x.law(0);
        due("whatever law holds", x.undo(), 2);
        sits(x, ".ABC");
        due("second", x.undo(), 1);
        sits(x, "A.BC");
        due("first", x.undo(), 0);
        sits(x, "AB.C");
        due("none", x.undo(), NONE);
        sits(x, "AB.C");
    }

    private static void diaries() {
        DeskMoves x = office("A.;ab");
        due("none", x.diary(0), NONE);
        due("no office", new DeskMoves().diary(0), NONE);
        for (int i = 0; i < 100; i++) {
            x.move(0, i % 2 == 0 ? 1 : 0);
        }
        due("a hundred", x.told(5), 100);
        due("the first", x.diary(0), 1);
        due("the last", x.diary(99), 0);
        due("not kept", x.diary(100), NONE);
        x.move(0, 1);
        due("the latest hundred", x.told(5), 100);
        due("the first is the second then", x.diary(0), 0);
        due("the last", x.diary(99), 1);
        due("below", x.diary(-1), NONE);
        due("least", x.diary(LEAST), NONE);
        for (int i = 99; i >= 0; i--) {
            due("undo", x.undo(), i);
        }
        due("no more", x.undo(), NONE);
        sits(x, ".A");
        DeskMoves ring = office("A......;ab,bc,cd,de,ef,fg,ga");
        for (int i = 1; i <= 110; i++) {
            ring.move(0, i % 7);
        }
        for (int i = 0; i < 100; i++) {
            due("diary " + i, ring.diary(i), (i + 11) % 7);
        }
        DeskMoves y = office("L.K;ab,bc");
        y.move(11, 1);
        due("16 times the clerk and the desk", y.diary(0), 16 * 11 + 1);
        y.undo();
        due("undone", y.diary(0), NONE);
    }

    private static void judged(DeskMoves x, String plan, int rules, int first, int why, int cost) {
        due("a plan: " + plan, text(x, 2, plan), (plan.length() + 1) / 3);
        String before = seats(x);
        due("first wrong of " + plan, x.judge(rules, 0), first);
        due("why of " + plan, x.judge(rules, 1), why);
        due("cost of " + plan, x.judge(rules, 2), cost);
        sits(x, before);
    }

    private static void judging() {
        DeskMoves x = office(RING);
        due("no plan", x.judge(0, 0), HIDDEN);
        due("no office", new DeskMoves().judge(0, 0), HIDDEN);
        judged(x, "Cc,Ad,Ba", 7, NONE, 0, 3);
        judged(x, "Bc,Ab,Ca", 0, NONE, 0, 4);
        due("rules", x.judge(8, 0), HIDDEN);
        due("rules", x.judge(-1, 0), HIDDEN);
        due("what", x.judge(0, 3), HIDDEN);
        due("what", x.judge(0, -1), HIDDEN);
        judged(x, "Dc", 0, 0, 1, 0);
        judged(x, "Cc,Ae", 0, 1, 1, 1);
        judged(x, "Bb", 0, 0, 2, 0);
        judged(x, "Ac", 0, 0, 2, 0);
        judged(x, "Ab", 0, 0, 3, 0);
        judged(x, "Bc,Bb,Bc", 0, NONE, 0, 6);
        judged(x, "Bc,Bb,Bc", 1, 1, 5, 2);
        judged(x, "Bc,Ab,Ba", 1, 2, 2, 3);
        due("no diary", x.told(5), 0);
        ranks();
        quarrelsome();
        text(x, 1, "y:2-l");
        x.law(0);
        judged(x, "Cc,Cd,Bc", 0, 2, 4, 2);
        judged(x, "Bc", 7, 0, 4, 0);
        judged(x, "Cc,Cd,Bc", 1, 1, 5, 1);
    }

    private static void ranks() {
        DeskMoves x = office(RING);
        x.set(2, 0, 5);
        x.set(0, 0, 4);
        judged(x, "Cc,Ad", 2, 1, 6, 1);
        judged(x, "Cc,Ad", 5, NONE, 0, 2);
        judged(x, "Cc,Cd,Bc", 2, 2, 6, 2);
        x.set(0, 0, 5);
        judged(x, "Cc,Ad", 2, NONE, 0, 2);
        x.set(0, 0, 6);
        judged(x, "Cc,Ad,Cd", 2, 2, 3, 2);
        judged(x, "Cc,Ad,Ba", 2, 2, 6, 2);
        judged(x, "Cc,Ad,Aa", 3, 2, 5, 2);
    }

    private static void quarrelsome() {
        DeskMoves x = office("AB..;ab,bc,cd;AB");
        judged(x, "Bc,Bd", 4, NONE, 0, 2);
        judged(x, "Bc,Ab", 4, 1, 7, 1);
        judged(x, "Bc,Ab", 3, NONE, 0, 2);
        judged(x, "Bc,Bb", 5, 1, 5, 1);
        judged(x, "Bc,Bb", 4, 1, 7, 1);
        DeskMoves y = office("ABC..;ab,bc,cd,de;AB");
        judged(y, "Cd", 4, 0, 7, 0);
        judged(y, "Cd", 3, NONE, 0, 1);
    }

    private static void wishing() {
        DeskMoves x = office(RING);
        due("a clerk", x.wish(0, 1), true);
        due("again", x.wish(0, 1), true);
        due("elsewhere", x.wish(1, 1), false);
        due("empty", x.wish(1, 12), true);
        due("empty too", x.wish(2, 12), true);
        due("another", x.wish(0, 2), true);
        due("the one ahead is free then", x.wish(1, 1), true);
        due("not there", x.wish(3, 3), false);
        due("no such", x.wish(3, 11), false);
        due("no such", x.wish(3, 13), false);
        due("no such", x.wish(3, -2), false);
        due("no desk", x.wish(4, 0), false);
        due("no desk", x.wish(-1, NONE), false);
        due("no desk", x.wish(4, NONE), false);
        due("nothing", x.wish(0, NONE), true);
        due("no office", new DeskMoves().wish(0, NONE), false);
    }

    private static void doing() {
        DeskMoves x = office(RING);
        due("nothing wished", x.done(), 1);
        x.wish(2, 12);
        due("is empty", x.done(), 1);
        x.wish(0, 12);
        due("is not", x.done(), 0);
        x.wish(0, 0);
        due("sits there", x.done(), 1);
        x.wish(3, 1);
        due("does not", x.done(), 0);
        x.wish(3, NONE);
        x.wish(2, 2);
        due("nobody there yet", x.done(), 0);
        x.move(2, 2);
        due("then", x.done(), 1);
        due("no office", new DeskMoves().done(), NONE);
    }

    private static void fewest(DeskMoves x, int... moves) {
        due("how many", x.fewest(NONE), moves.length);
        for (int i = 0; i < moves.length; i++) {
            due("move " + i, x.fewest(i), moves[i]);
        }
        due("no such move", x.fewest(moves.length), NONE);
    }

    private static void fewestMoves() {
        DeskMoves x = office(RING);
        fewest(x);
        x.wish(0, 1);
        fewest(x, 34, 3, 16);
        due("below", x.fewest(-2), NONE);
        due("least", x.fewest(LEAST), NONE);
        sits(x, "AB.C");
        x.wish(1, 12);
        fewest(x, 34, 3, 16);
        // Of alike rows: the lowest clerk, then the lowest desk.
        DeskMoves y = office("B.A.;ab,bc,cd,da");
        y.wish(0, 12);
        fewest(y, 17);
        y.wish(2, 12);
        fewest(y, 1, 19);
        DeskMoves z = ruled(RING, "y:2-l");
        z.wish(0, 1);
        fewest(z, 34, 3, 16);
        z.wish(0, NONE);
        z.wish(2, 1);
        due("not let", z.fewest(NONE), NONE);
        due("not let", z.fewest(0), NONE);
        z.law(NONE);
        fewest(z, 18);
        due("more than 8", office(BIG).fewest(NONE), HIDDEN);
        due("no office", new DeskMoves().fewest(NONE), HIDDEN);
        due("no office", new DeskMoves().fewest(-5), HIDDEN);
    }

    private static void cheapestMoves() {
        DeskMoves x = office(ROUND);
        due("done", x.cheapest(), 0);
        x.wish(1, 0);
        due("round is cheaper", x.cheapest(), 3);
        due("than the fewest", x.fewest(NONE), 1);
        x.set(1, 1, 6);
        due("with more of the other's papers", x.cheapest(), 8);
        x.set(1, 1, 8);
        due("with many", x.cheapest(), 9);
        x.set(0, 1, 0);
        due("without its own", x.cheapest(), 0);
        x.set(0, 1, 9);
        due("with many of its own", x.cheapest(), 26);
        sits(x, "A.B.");
        x.wish(2, 1);
        due("all that is wished", x.cheapest(), 34);
        x.move(0, 1);
        due("from the seating as it is", x.cheapest(), 0);
        x.wish(2, NONE);
        x.wish(0, 1);
        due("another wish", x.cheapest(), 8);
        DeskMoves y = office("AB.;ab,bc");
        y.wish(0, 1);
        due("none", y.cheapest(), NONE);
        due("more than 8", office(BIG).cheapest(), HIDDEN);
        due("no office", new DeskMoves().cheapest(), HIDDEN);
    }

    private static void comingToAll() {
        DeskMoves x = office(RING);
        due("all", x.all(0), 12);
        due("far", x.all(1), 6);
        due("what", x.all(2), HIDDEN);
        due("what", x.all(-1), HIDDEN);
        due("grid", office(GRID).all(0), 360);
        due("grid far", office(GRID).all(1), 21);
        due("eight desks", office("ABCDEFG.;ab,bc,cd,de,ef,fg,gh,ha,ac").all(0), 40320);
        due("eight desks of two colours", office("ABCDEFG.;ab,bc,cd,ef,fg,gh,ae,bf,cg,dh").all(0), 20160);
        due("many empty", office("A.......;ab,bc,cd,de,ef,fg,gh").all(1), 7);
        due("none can move", office("AB.;ab").all(0), 1);
        due("none can move", office("AB.;ab").all(1), 0);
        due("one way only", ruled("A..;ab,bc", "y:t-f").all(0), 3);
        DeskMoves y = ruled("A..;ab,bc", "y:t-f");
        y.move(0, 1);
        due("from there", y.all(0), 2);
        y.set(0, 0, 3);
        y.law(NONE);
        due("without the law", y.all(0), 3);
        due("by who sits beside", ruled("ABCD..;ab,bc,cd,de,ef,fa,ad;AB,CD", "y:2-b").all(0), 313);
        due("by who quarrels", ruled("ABCD..;ab,bc,cd,de,ef,fa,ad;AB,CD", "y:1-q").all(0), 21);
        due("by both", ruled("ABC...;ab,bc,cd,de,ef,fa,ad;AB,BC", "y:q=1&c<2?1;y:b=1?1").all(0), 12);
        due("far by both", ruled("ABC...;ab,bc,cd,de,ef,fa,ad;AB,BC", "y:q=1&c<2?1;y:b=1?1").all(1), 6);
        due("more than 8", office(BIG).all(0), HIDDEN);
        due("no office", new DeskMoves().all(0), HIDDEN);
        changing();
    }

    /** Each change is seen by the next search. */
    private static void changing() {
        DeskMoves x = ruled("A..;ab,bc", "y:[t-f]*[p-r]");
        x.wish(2, 0);
        due("onwards", x.all(0) * 100 + x.cheapest() + 1, 303);
        x.move(0, 1);
        due("from b", x.all(0) * 100 + x.cheapest() + 1, 202);
        x.image();
        x.move(0, 2);
        due("from c", x.all(0) * 100 + x.cheapest() + 1, 101);
        x.undo();
        due("undone", x.all(0) * 100 + x.cheapest() + 1, 202);
        x.set(0, 0, 1);
        due("none is let", x.all(0) * 100 + x.cheapest() + 1, 100);
        x.set(0, 1, 3);
        due("with more papers", x.all(0) * 100 + x.cheapest() + 1, 204);
        x.move(0, 2);
        due("on", x.all(0) * 100 + x.cheapest() + 1, 101);
        x.back();
        due("back", x.all(0) * 100 + x.cheapest() + 1, 204);
        x.set(0, 0, 5);
        due("backwards", x.all(0) * 100 + x.cheapest() + 1, 200);
        x.law(NONE);
        due("without a law", x.all(0) * 100 + x.cheapest() + 1, 304);
        x.law(0);
        due("with it again", x.all(0) * 100 + x.cheapest() + 1, 200);
        x.wish(2, NONE);
        due("without a wish", x.all(0) * 100 + x.cheapest() + 1, 201);
    }

    private static void counting() {
        DeskMoves x = office(RING);
        int[] counts = {1, 2, 2, 2, 2, 2, 1, 0};
        for (int k = 0; k < counts.length; k++) {
            due("count " + k, x.count(k), counts[k]);
        }
        due("60", x.count(60), 0);
        due("61", x.count(61), HIDDEN);
        due("below", x.count(-1), HIDDEN);
        DeskMoves y = office("ABCDEFG.;ab,bc,cd,de,ef,fg,gh,ha");
        due("a ring of eight", y.all(0), 56);
        due("count 28", y.count(28), 1);
        due("count 27", y.count(27), 2);
        DeskMoves z = office("ABCDEF.;ab,bc,cd,de,ef,fg,ga,ac");
        due("a long way", z.all(1), 63);
        due("count 59", z.count(59), 4);
        due("count 60", z.count(60), 4);
        due("not told", z.count(63), HIDDEN);
        due("more than 8", office(BIG).count(0), HIDDEN);
        due("no office", new DeskMoves().count(0), HIDDEN);
    }

    private static void illness() {
        DeskMoves x = office(RING);
        due("nothing wished", x.ill(0), 0);
        x.wish(0, 1);
        due("A sits where B is wished", x.ill(0), 0);
        due("B's own wish", x.ill(1), 0);
        due("C is in the way", x.ill(2), NONE);
        due("not there", x.ill(3), HIDDEN);
        due("no such", x.ill(-1), HIDDEN);
        due("no such", x.ill(12), HIDDEN);
        x.wish(0, NONE);
        x.wish(2, 1);
        due("with C ill", x.ill(2), 2);
        due("with B ill its wish is left out", x.ill(1), 0);
        x.wish(1, 0);
        due("B ill: no wish is left for its desk", x.ill(1), 0);
        due("A ill", x.ill(0), 2);
        due("C ill", x.ill(2), 3);
        DeskMoves y = office(ROUND);
        y.wish(1, 0);
        due("well", y.cheapest(), 3);
        due("B ill", y.ill(1), 9);
        due("A ill", y.ill(0), 0);
        due("more than 8", office(BIG).ill(0), HIDDEN);
        due("no office", new DeskMoves().ill(0), HIDDEN);
    }

    private static void holding() {
        DeskMoves x = office(ROUND);
        due("nothing wished", x.holds(), 0);
        x.wish(1, 0);
        due("the greatest", x.holds(), 9);
        x.set(0, 1, 3);
        due("with more papers", x.holds(), 27);
        DeskMoves y = office(RING);
        y.wish(0, 1);
        due("some can't be", y.holds(), NONE);
        due("more than 8", office(BIG).holds(), HIDDEN);
        due("no office", new DeskMoves().holds(), HIDDEN);
    }

    private static void sorting() {
        due("apart", office("ABC.;ab,cd").sort(), 0);
        due("one apart", office("AB.;ab").sort(), 0);
        due("two", office("A.;ab").sort(), 1);
        due("a row", office(ROW).sort(), 1);
        due("a hinge", office("ABCD.;ab,bc,ca,cd,de,ec").sort(), 1);
        due("three", office("AB.;ab,bc,ca").sort(), 2);
        due("a ring", office(RING).sort(), 2);
        due("twelve", office(BIG).sort(), 2);
        due("theta", office(THETA).sort(), 3);
        due("theta by other names", office("ABCDEF.;ge,ec,ca,af,fd,dg,gb,ba").sort(), 3);
        due("theta, none of them a", office("ABCDEF.;ab,bc,cd,de,ef,fa,bg,ge").sort(), 3);
        due("a way of two elsewhere", office("ABCDEF.;ab,bc,cd,de,ef,fa,ag,gc").sort(), 4);
        due("a door across", office("ABCDEF.;ab,bc,cd,de,ef,fg,ga,ad").sort(), 5);
        due("a door beside", office("ABCDEF.;ab,bc,cd,de,ef,fg,ga,ac").sort(), 5);
        due("theta with a door more", office(THETA + ",be").sort(), 5);
        due("grid", office(GRID).sort(), 4);
        due("square with a door", office("ABC.;ab,bc,cd,da,ac").sort(), 5);
        due("all doors", office("ABC.;ab,bc,cd,da,ac,bd").sort(), 5);
        due("twelve and one", office(BIG + ",ac").sort(), 5);
        due("twelve and one of colours", office(BIG + ",ad").sort(), 4);
        due("two empty", office("AB..;ab,bc,cd,da").sort(), NONE);
        due("no office", new DeskMoves().sort(), NONE);
    }

    private static void can(String office, String wished, int want) {
        DeskMoves x = office(office);
        wishes(x, wished);
        due("can " + office + " become " + wished, x.can(), want);
    }

    private static void becoming() {
        can(RING, "BC.A", 1);
        can(RING, "CAB.", 1);
        can(RING, "BA.C", 0);
        can(RING, "AB C", NONE);
        can(RING, "AB.C", 1);
        can(RING, "AB..", NONE);
        can(BIG, "BCDEFGHIJK.A", 1);
        can(BIG, "BACDEFGHIJK.", 0);
        can(GRID, "ABCDE.", 1);
        can(GRID, "BACDE.", 0);
        can(GRID, "BCADE.", 1);
        can(GRID, "ABCD.E", 1);
        can(GRID, "BACD.E", 0);
        can(GRID, "ABC.DE", 1);
        can(GRID, "ABC.ED", 0);
        can("ABC.;ab,bc,cd,da,ac", "BAC.", 1);
        can(BIG + ",ac", "BACDEFGHIJK.", 1);
        can(BIG + ",ad", "BACDEFGHIJK.", 0);
        can(ROW, "AB.C", 1);
        can(ROW, "BA.C", 0);
        can("AB.C;ab,cd", "ABC.", 1);
        can("AB.C;ab,cd", "BA.C", 0);
        can("A.;ab", ".A", 1);
        can(THETA, "ABCDEF.", 1);
        can("ABCDEFGHI.;ab,bc,cd,de,ef,fg,gh,hi,ij", "ABCDEFGH.I", HIDDEN);
        can("AB..;ab,bc,cd,da", "AB..", NONE);
        can(THETA, "BCDAEF.", 1);
        can(THETA, "BACDEF.", 0);
        can(THETA, "BCADEF.", 0);
        due("a theta can't be all", office(THETA).all(0), 840);
        DeskMoves x = ruled(ROW, "y:0");
        wishes(x, "AB.C");
        due("laws are left out", x.can(), 1);
        due("but not of these", x.all(0), 1);
        due("nor of these", x.fewest(NONE), NONE);
        due("left out again", x.can(), 1);
        due("no office", new DeskMoves().can(), NONE);
    }

    private static void worths() {
        DeskMoves x = office(RING);
        due("worth", x.worth(0, 0, 99), true);
        due("told", x.seated(0), 99);
        due("again", x.worth(0, 0, 0), true);
        due("told", x.seated(0), 0);
        due("above", x.worth(0, 0, 100), false);
        due("below", x.worth(0, 0, -1), false);
        due("not there", x.worth(3, 0, 1), false);
        due("no desk", x.worth(0, 4, 1), false);
        due("no desk", x.worth(0, -1, 1), false);
        due("no such", x.worth(-1, 0, 1), false);
        due("told", x.seated(NONE), 0);
        due("no office", new DeskMoves().worth(0, 0, 1), false);
    }

    private static DeskMoves market(String office, int[]... worths) {
        DeskMoves x = office(office);
        int row = 0;
        for (int c = 0; c < 12; c++) {
            for (int d = 0; (x.told(1) >> c & 1) != 0 && d < x.told(0); d++) {
                x.worth(c, d, worths[row][d]);
            }
            row += x.told(1) >> c & 1;
        }
        return x;
    }

    private static void seating() {
        DeskMoves x = market(RING, new int[] {5, 9, 0, 0}, new int[] {8, 3, 2, 0}, new int[] {0, 0, 7, 1});
        due("A", x.seated(0), 5);
        due("B", x.seated(1), 3);
        due("all", x.seated(NONE), 9);
        x.move(1, 2);
        due("B elsewhere", x.seated(1), 2);
        due("all", x.seated(NONE), 8);
        due("not there", x.seated(3), NONE);
        due("no such", x.seated(-2), NONE);
        due("no such", x.seated(12), NONE);
        due("no office", new DeskMoves().seated(NONE), NONE);
        due("no office", new DeskMoves().seated(0), NONE);
    }

    private static void bestSeating() {
        DeskMoves x = market(RING, new int[] {5, 9, 0, 0}, new int[] {8, 3, 2, 0}, new int[] {0, 0, 7, 1});
        due("sum", x.best(NONE), 24);
        due("A", x.best(0), 1);
        due("B", x.best(1), 0);
        due("C", x.best(2), 2);
        x.worth(1, 1, 99);
        due("sum", x.best(NONE), 111);
        due("A", x.best(0), 0);
        due("not there", x.best(3), NONE);
        due("no such", x.best(-2), NONE);
        DeskMoves y = office("B.A;ab");
        due("of several the lowest clerk's lowest desk", y.best(0), 0);
        due("then the next one's", y.best(1), 1);
        DeskMoves z = market("BA.;ab", new int[] {3, 3, 3}, new int[] {4, 0, 4});
        due("of several", z.best(0), 0);
        due("of several", z.best(1), 2);
        DeskMoves big = office(BIG);
        for (int c = 0; c < 11; c++) {
            big.worth(c, 11 - c, 99);
        }
        due("eleven", big.best(NONE), 1089);
        due("K", big.best(10), 1);
        due("no office", new DeskMoves().best(NONE), NONE);
        due("no office", new DeskMoves().best(0), NONE);
    }

    private static void gaining() {
        // Both want desk a, B more; by telling 99 for it A gets it.
        DeskMoves x = market("AB.;ab", new int[] {6, 5, 0}, new int[] {9, 0, 0});
        due("in truth", x.best(0), 1);
        due("A's gain", x.gains(0, 0), 1);
        due("A's desk", x.gains(0, 1), 0);
        due("B's gain", x.gains(1, 0), 0);
        due("B's desk", x.gains(1, 1), 0);
        due("nothing is changed", x.best(0), 1);
        due("sum", x.best(NONE), 14);
        due("what", x.gains(0, 2), NONE);
        due("what", x.gains(0, -1), NONE);
        due("not there", x.gains(2, 0), NONE);
        due("no such", x.gains(-1, 0), NONE);
        x.worth(1, 1, 9);
        due("another's worth", x.gains(0, 0), 0);
        due("of several the lowest", office("AB.;ab").gains(1, 1), 0);
        DeskMoves y = market("AB.;ab", new int[] {99, 0, 0}, new int[] {5, 1, 0});
        due("99 is told, no more", y.gains(1, 0), 0);
        DeskMoves z = market("AB.;ab", new int[] {5, 0, 0}, new int[] {99, 0, 0});
        due("0 is told for others", z.gains(0, 0), 5);
        DeskMoves v = market("ABC.;ab", new int[] {50, 49, 0, 0}, new int[] {60, 40, 30, 0}, new int[] {70, 60, 0, 5});
        int[] alone = {v.gains(0, 0), v.gains(1, 0), v.gains(2, 0)};
        for (int c = 0; c < 3; c++) {
            DeskMoves once = market("ABC.;ab", new int[] {50, 49, 0, 0}, new int[] {60, 40, 30, 0}, new int[] {70, 60, 0, 5});
            due("one's lie is not another's", once.gains(c, 0), alone[c]);
        }
        DeskMoves w = market("AB.;ab", new int[] {99, 0, 0}, new int[] {60, 20, 0});
        due("A has what it wants", w.gains(0, 0), 0);
        due("and tells the truth when B lies", w.gains(1, 0), 0);
        due("A's of three", alone[0], 1);
        due("B's of three", alone[1], 30);
        due("C's of three", alone[2], 0);
        due("no office", new DeskMoves().gains(0, 0), NONE);
    }

    private static void exchanging() {
        DeskMoves x = market("ABC.;ab", new int[] {1, 9, 0, 0}, new int[] {0, 1, 9, 0}, new int[] {9, 0, 1, 0});
        due("ring A", x.exchange(0), 1);
        due("ring B", x.exchange(1), 2);
        due("ring C", x.exchange(2), 0);
        DeskMoves own = office("AB.;ab");
        due("of several its own", own.exchange(1), 1);
        own.worth(1, 0, 5);
        own.worth(1, 2, 5);
        due("then the lowest, but A keeps it", own.exchange(1), 2);
        DeskMoves y = market("AB.;ab", new int[] {1, 0, 5}, new int[] {7, 1, 5});
        due("the lowest gets what is nobody's", y.exchange(0), 2);
        due("its own is nobody's then", y.exchange(1), 0);
        DeskMoves z = market("AB.;ab", new int[] {0, 0, 5}, new int[] {0, 1, 5});
        due("A ahead of B", z.exchange(0), 2);
        due("B keeps its own", z.exchange(1), 1);
        // A and B would exchange; C points to the empty desk and goes first, D to C's then.
        DeskMoves v = market("ABCD.;ab", new int[] {1, 9, 0, 0, 0}, new int[] {9, 1, 0, 0, 0},
            new int[] {0, 0, 1, 0, 9}, new int[] {0, 0, 9, 1, 9});
        due("C", v.exchange(2), 4);
        due("D", v.exchange(3), 2);
        due("A", v.exchange(0), 1);
        due("B", v.exchange(1), 0);
        sits(v, "ABCD.");
        due("not there", v.exchange(4), NONE);
        due("no such", v.exchange(-1), NONE);
        due("no office", new DeskMoves().exchange(0), NONE);
    }

    private static void agreeing() {
        DeskMoves x = market("CBA.;ab", new int[] {5, 4, 3, 0}, new int[] {0, 3, 4, 0}, new int[] {1, 0, 2, 0});
        due("pairs", x.agree(NONE), 2);
        due("A and B", x.agree(0), 1);
        due("A and C", x.agree(1), 2);
        due("no more", x.agree(2), NONE);
        due("below", x.agree(-2), NONE);
        due("least", x.agree(LEAST), NONE);
        x.worth(1, 2, 3);
        due("as much is not more", x.agree(NONE), 1);
        due("none", office(RING).agree(NONE), 0);
        due("none", office(RING).agree(0), NONE);
        due("no office", new DeskMoves().agree(NONE), NONE);
    }

    private static void voting() {
        DeskMoves x = office(ROW);
        due("A has fewer", x.vote(1, 2), 1);
        due("B has fewer", x.vote(0, 3), 1);
        due("those who change have no vote", x.vote(0, 1), 0);
        due("alike", x.vote(0, 0), HIDDEN);
        due("no such", x.vote(0, 4), HIDDEN);
        due("no such", x.vote(-1, 0), HIDDEN);
        sits(x, "ABC.");
        DeskMoves y = office("ACB..;ab,bc,cd,de;AB");
        due("A has more", y.vote(1, 2), -1);
        due("the other way", y.vote(2, 1), -1);
        due("both empty", y.vote(3, 4), HIDDEN);
        due("one empty", y.vote(4, 3), HIDDEN);
        DeskMoves z = office("ABCD;ab".replace("D", "D.") + ",bc,cd,da;AB,BC,CD,DA");
        due("two have fewer, none more", z.vote(1, 4), 2);
        due("no office", new DeskMoves().vote(0, 1), HIDDEN);
    }

    private static void images() {
        DeskMoves x = office(RING);
        due("none yet", x.back(), NONE);
        x.move(1, 2);
        due("image", x.image(), 1);
        x.move(0, 1);
        x.undo();
        x.undo();
        x.move(2, 2);
        due("instead of the one ahead", x.image(), 1);
        x.undo();
        due("back", x.back(), 1);
        sits(x, "ABC.");
        due("its diary", x.diary(0), 34);
        due("no office", new DeskMoves().image(), NONE);
    }

    private static void goingBack() {
        DeskMoves x = office(RING);
        x.move(1, 2);
        x.move(0, 1);
        x.image();
        x.undo();
        x.undo();
        x.move(2, 2);
        x.set(0, 0, 3);
        x.worth(0, 0, 4);
        due("back", x.back(), 2);
        sits(x, ".ABC");
        due("diary", x.diary(0), 18);
        due("diary", x.diary(1), 1);
        due("rank is not of it", x.clerk(0, 1), 3);
        due("clerk's desk", x.clerk(0, 0), 1);
        due("undo", x.undo(), 1);
        sits(x, "A.BC");
        due("back once more", x.back(), 2);
        sits(x, ".ABC");
        text(x, 0, "A.;aa");
        due("the office stays", x.back(), 2);
        text(x, 0, RING);
        due("of another office", x.back(), NONE);
        due("no office", new DeskMoves().back(), NONE);
    }

    private static void telling() {
        DeskMoves x = office("L.A;ab");
        due("desks", x.told(0), 3);
        due("clerks", x.told(1), 2049);
        due("laws", x.told(2), 0);
        due("tape", x.told(3), 0);
        due("no plan", x.told(4), NONE);
        due("diary", x.told(5), 0);
        due("no law", x.told(6), NONE);
        x.move(11, 1);
        text(x, 1, "y:1");
        text(x, 1, "y:1");
        x.law(1);
        text(x, 2, "Aa,Bb");
        feed(x, "abc");
        due("laws", x.told(2), 2);
        due("tape", x.told(3), 3);
        due("plan", x.told(4), 2);
        due("diary", x.told(5), 1);
        due("law", x.told(6), 1);
        for (int what : new int[] {-1, 7, LEAST, MOST}) {
            due("told(" + what + ")", x.told(what), HIDDEN);
        }
    }

    private static void testsTo18(int number) {
        promise = number;
        switch (number) {
            case 1: newObject(); break;
            case 2: feeding(); break;
            case 3: ending(); break;
            case 4: faults(); break;
            case 5: texts(); break;
            case 6: desks(); break;
            case 7: doors(); break;
            case 8: quarrels(); break;
            case 9: setting(); break;
            case 10: clerks(); break;
            case 11: laws(); break;
            case 12: letting(); break;
            case 13: moving(); break;
            case 14: undoing(); break;
            case 15: diaries(); break;
            case 16: judging(); break;
            case 17: wishing(); break;
            default: doing(); break;
        }
    }

    private static void testsFrom19(int number) {
        promise = number;
        switch (number) {
            case 19: fewestMoves(); break;
            case 20: cheapestMoves(); break;
            case 21: comingToAll(); break;
            case 22: counting(); break;
            case 23: illness(); break;
            case 24: holding(); break;
            case 25: sorting(); break;
            case 26: becoming(); break;
            case 27: worths(); break;
            case 28: seating(); break;
            case 29: bestSeating(); break;
            case 30: gaining(); break;
            case 31: exchanging(); break;
            case 32: agreeing(); break;
            case 33: voting(); break;
            case 34: images(); break;
            case 35: goingBack(); break;
            default: telling(); break;
        }
    }

    public static void main(String[] args) {
        for (int number = 1; number <= 18; number++) {
            testsTo18(number);
        }
        for (int number = 19; number <= 36; number++) {
            testsFrom19(number);
        }
        System.out.println(asked + " answers asked, " + wrong + " are not as due");
        if (wrong != 0) {
            System.exit(1);
        }
    }
}
