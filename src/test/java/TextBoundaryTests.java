import java.nio.charset.StandardCharsets;
import java.nio.file.Files;
import java.nio.file.Path;

/**
 * Where a text can't go on: behind each beginning every byte from 1 to 255 is tried, and the end.
 * What may follow is written out here by hand, sentence by sentence of the document's Terms.
 */
public final class TextBoundaryTests {
    private static final int NONE = -1;
    private static final int OFFICE = 0;
    private static final int LAW = 1;
    private static final int PLAN = 2;

    private static final String CLERKS = "ABCDEFGHIJKL";
    private static final String DESKS = "abcdefghijkl";
    private static final String DIGITS = "0123456789";
    private static final String LETTERS = "cftlrpbq";
    private static final String ATOM = DIGITS + LETTERS + "[";
    private static final String UNIT = ATOM + "!(";

    private static String sentence = "";
    private static String document = "";
    private static int wrong;
    private static int asked;

    private static void due(String what, long got, long want) {
        asked++;
        if (got != want) {
            wrong++;
            System.out.println("'" + sentence + "': " + what + " answered " + got + ", due is " + want);
        }
    }

    /** The words must stand in the document, so that no test keeps a sentence that is not there. */
    private static void says(String words) {
        sentence = words;
        if (!document.isEmpty() && !document.contains(words)) {
            wrong++;
            System.out.println("the document does not say '" + words + "'");
        }
    }

    private static void readDocument() {
        Path path = Path.of(System.getProperty("deskmoves.shared", "../shared"), "DOC.md");
        if (Files.isReadable(path)) {
            try {
                document = Files.readString(path, StandardCharsets.UTF_8).replaceAll("\\s+", " ");
            } catch (java.io.IOException e) {
                document = "";
            }
        }
    }

    private static DeskMoves fed(String s) {
        DeskMoves x = new DeskMoves();
        for (int from = 0; from < s.length(); from += 20) {
            int[] five = new int[5];
            for (int i = 0; i < 20 && from + i < s.length(); i++) {
                five[i / 4] |= (s.charAt(from + i) & 255) << 24 - i % 4 * 8;
            }
            x.feed(five[0], five[1], five[2], five[3], five[4]);
        }
        due("the tape of '" + s + "'", x.told(3), s.length());
        return x;
    }

    private static int faultOf(int sort, String s) {
        return fed(s).fault(sort);
    }

    /** A text that can end here: with the letters behind it going on, every other byte wrong. */
    private static void ends(int sort, String text, String followers) {
        due("fault of '" + text + "'", faultOf(sort, text), NONE);
        follow(sort, text, followers);
    }

    /** A beginning that is no text yet. */
    private static void goes(int sort, String begun, String followers) {
        due("fault of '" + begun + "'", faultOf(sort, begun), begun.length());
        follow(sort, begun, followers);
    }

    private static void follow(int sort, String begun, String followers) {
        String[] both = {begun, begun + " "};
        for (String s : both) {
            for (int b = 1; b < 256 && s.length() < 160; b++) {
                boolean may = b == ' ' || followers.indexOf(b) >= 0;
                int fault = faultOf(sort, s + (char) b);
                // What may follow is wrong nowhere, or ends too early: at the length.
                int want = may ? fault == NONE ? NONE : s.length() + 1 : s.length();
                due("fault of '" + s + "' and byte " + b, fault, want);
            }
        }
    }

    private static String without(String signs, String taken) {
        StringBuilder s = new StringBuilder();
        for (char c : signs.toCharArray()) {
            if (taken.indexOf(c) < 0) {
                s.append(c);
            }
        }
        return s.toString();
    }

    private static String times(String s, int n) {
        return s.repeat(n);
    }

    private static void seats() {
        says("SEATS: for each DESK (2 .. 12; letters a .. l in this order) a CLERK, a letter A .. L, each once at most, or a dot (EMPTY)");
        goes(OFFICE, "", CLERKS + ".");
        goes(OFFICE, ".", CLERKS + ".");
        goes(OFFICE, "ABCDEFGHIJ.", "KL.;");
        goes(OFFICE, "A..........", without(CLERKS, "A") + ".;");
        says("a CLERK told twice");
        goes(OFFICE, "A", without(CLERKS, "A") + ".");
        goes(OFFICE, "L", without(CLERKS, "L") + ".");
        goes(OFFICE, "F.", without(CLERKS, "F") + ".;");
        goes(OFFICE, "ABCDEFGHIJK", "L.");
        says("a thirteenth DESK");
        goes(OFFICE, "ABCDEFGHIJK.", ";");
        goes(OFFICE, "...........L", ";");
        goes(OFFICE, "............", "");
        goes(OFFICE, "ABCDEFGHIJKL", "");
        says("One EMPTY DESK and one CLERK at least");
        goes(OFFICE, "AB", without(CLERKS, "AB") + ".");
        goes(OFFICE, "..", CLERKS + ".");
        goes(OFFICE, "A.", without(CLERKS, "A") + ".;");
        goes(OFFICE, ".A", without(CLERKS, "A") + ".;");
    }

    private static void doors() {
        says("DOORS: pairs of DESKS with , between, one at least");
        goes(OFFICE, "A.;", "ab");
        goes(OFFICE, "ABCDEFGHIJK.;", DESKS);
        goes(OFFICE, "ABCDEFGHIJ.;", without(DESKS, "l"));
        says("two letters, unlike");
        goes(OFFICE, "A.;a", "b");
        goes(OFFICE, "A.;b", "a");
        goes(OFFICE, "ABCDEFGHIJK.;l", without(DESKS, "l"));
        goes(OFFICE, "ABCDEFGHIJK.;f", without(DESKS, "f"));
        says("perhaps LENGTH (1 .. 9; 1 without)");
        ends(OFFICE, "A.;ab", "123456789,;");
        for (char length = '1'; length <= '9'; length++) {
            ends(OFFICE, "A.;ab" + length, ",;");
        }
        says("each pair once at most (either way)");
        goes(OFFICE, "A.;ab,", "ab");
        goes(OFFICE, "A.;ab,a", "");
        goes(OFFICE, "A.;ab,b", "");
        goes(OFFICE, "A..;ab9,a", "c");
        goes(OFFICE, "A..;ab9,b", "c");
        goes(OFFICE, "A..;ab9,c", "ab");
        goes(OFFICE, "A..;ab,bc,a", "c");
        goes(OFFICE, "A..;ba,cb,c", "a");
        ends(OFFICE, "A..;ab,bc,ca", "123456789,;");
        ends(OFFICE, "ABCDEFG.;ab,ac,ad,ae,af,ag,ah,bc,bd,be,bf,bg,bh,cd,ce,cf,cg,ch,de,df,dg,dh,ef,eg,eh,fg,fh,gh",
            "123456789,;");
    }

    private static void quarrels() {
        says("QUARRELS: pairs of CLERKS who sit there, likewise (without LENGTH)");
        goes(OFFICE, "AB.;ab;", "AB");
        goes(OFFICE, "AL.;ab9;", "AL");
        goes(OFFICE, "A.;ab;", "A");
        goes(OFFICE, "A.;ab;A", "");
        goes(OFFICE, "AB.;ab;A", "B");
        goes(OFFICE, "AB.;ab;B", "A");
        goes(OFFICE, "BDF.;ab;D", "BF");
        ends(OFFICE, "AB.;ab;AB", ",");
        goes(OFFICE, "AB.;ab;AB,", "AB");
        goes(OFFICE, "AB.;ab;AB,A", "");
        goes(OFFICE, "AB.;ab;AB,B", "");
        goes(OFFICE, "ABC.;ab;AB,B", "C");
        goes(OFFICE, "ABC.;ab;AB,C", "AB");
        ends(OFFICE, "ABC.;ab;AB,CB,CA", ",");
    }

    private static void clauses() {
        says("CLAUSES with ; between, one at least: y, : , perhaps CONDITION ?, then SUM");
        goes(LAW, "", "y");
        goes(LAW, "y", ":");
        goes(LAW, "y:", UNIT);
        goes(LAW, "y:c;", "y");
        goes(LAW, "y:c;y", ":");
        goes(LAW, "y:c;y:", UNIT);
        goes(LAW, "y:c=c?", ATOM);
        ends(LAW, "y:c=c?c", "+-*/;");
        ends(LAW, "y:c=c?1", DIGITS + "+-*/;");
        goes(LAW, "y:c=c?[", ATOM);
        says("a number (1 to 4 digits)");
        ends(LAW, "y:0", DIGITS + "+-*/=<>;");
        ends(LAW, "y:12", DIGITS + "+-*/=<>;");
        ends(LAW, "y:999", DIGITS + "+-*/=<>;");
        says("a fifth digit");
        ends(LAW, "y:9999", "+-*/=<>;");
        ends(LAW, "y:0000", "+-*/=<>;");
        ends(LAW, "y:1 2 3 4", "+-*/=<>;");
        goes(LAW, "y:1=1234", "+-*/&|?");
        says("a letter (c f t l r p b q)");
        for (char letter : LETTERS.toCharArray()) {
            ends(LAW, "y:" + letter, "+-*/=<>;");
        }
    }

    private static void conditions() {
        says("CONDITION: TRUTHS with | between; TRUTH: UNITS with & between");
        goes(LAW, "y:c=c", "+-*/&|?");
        goes(LAW, "y:c=c|", UNIT);
        goes(LAW, "y:c=c&", UNIT);
        goes(LAW, "y:c=c|c", "+-*/=<>");
        goes(LAW, "y:c=c&c", "+-*/=<>");
        goes(LAW, "y:c=c|c=c&c=c", "+-*/&|?");
        says("UNIT: ! UNIT, ( CONDITION ), or SUM, one of = < >, SUM");
        for (char sign : "=<>".toCharArray()) {
            goes(LAW, "y:c" + sign, ATOM);
            goes(LAW, "y:c" + sign + "c", "+-*/&|?");
            goes(LAW, "y:c" + sign + "1", DIGITS + "+-*/&|?");
        }
        says("(A CLAUSE that goes on with ! or ( behind its : has a CONDITION.)");
        goes(LAW, "y:!", UNIT);
        goes(LAW, "y:(", UNIT);
        goes(LAW, "y:!c", "+-*/=<>");
        goes(LAW, "y:(c", "+-*/=<>");
        goes(LAW, "y:!c=c", "+-*/&|?");
        goes(LAW, "y:(c=c", "+-*/&|)");
        goes(LAW, "y:(c=c)", "&|?");
        goes(LAW, "y:!(c=c)", "&|?");
        goes(LAW, "y:(!c=c", "+-*/&|)");
        goes(LAW, "y:((c=c)", "&|)");
        goes(LAW, "y:(c=c)?", ATOM);
    }

    private static void sums() {
        says("SUM: TERMS with + or - between; TERM: ATOMS with * or / between");
        for (char sign : "+-*/".toCharArray()) {
            goes(LAW, "y:c" + sign, ATOM);
            ends(LAW, "y:c" + sign + "c", "+-*/=<>;");
            goes(LAW, "y:[c" + sign, ATOM);
            goes(LAW, "y:c=c" + sign, ATOM);
        }
        says("ATOM: a number (1 to 4 digits), a letter (c f t l r p b q), [ SUM ]");
        goes(LAW, "y:[", ATOM);
        goes(LAW, "y:[c", "+-*/]");
        goes(LAW, "y:[1", DIGITS + "+-*/]");
        goes(LAW, "y:[1234", "+-*/]");
        ends(LAW, "y:[c]", "+-*/=<>;");
        goes(LAW, "y:[[c]", "+-*/]");
        goes(LAW, "y:c=[c]", "+-*/&|?");
    }

    private static void nesting() {
        says("At most six of ( [ ! within one another");
        String five = "y:[[[[[";
        goes(LAW, five, ATOM);
        goes(LAW, five + "[", without(ATOM, "["));
        goes(LAW, five + "[c]", "+-*/]");
        goes(LAW, five + "[c]+", ATOM);
        goes(LAW, five + "[c]+[", without(ATOM, "["));
        ends(LAW, five + "[c]]]]]]", "+-*/=<>;");
        goes(LAW, five + "[c]]]]]]+", ATOM);
        goes(LAW, "y:!!!!!", UNIT);
        goes(LAW, "y:!!!!!!", without(UNIT, "[!("));
        goes(LAW, "y:!!!!!!c=", without(ATOM, "["));
        goes(LAW, "y:!!!!!!c=c&", UNIT);
        goes(LAW, "y:!!!!!!c=c|!!!!!!", without(UNIT, "[!("));
        goes(LAW, "y:(((((", UNIT);
        goes(LAW, "y:((((((", without(UNIT, "[!("));
        goes(LAW, "y:((((((c=c|", without(UNIT, "[!("));
        goes(LAW, "y:((((((c=c)", "&|)");
        goes(LAW, "y:((((((c=c)|", UNIT);
        goes(LAW, "y:((((((c=c))))))?", ATOM);
        goes(LAW, "y:((((((c=c))))))?[[[[[[", without(ATOM, "["));
        goes(LAW, "y:!(!(!", UNIT);
        goes(LAW, "y:!(!(!(", without(UNIT, "[!("));
        goes(LAW, "y:(!(![", ATOM);
        goes(LAW, "y:(!(![[", without(ATOM, "["));
        goes(LAW, "y:!c=c&[[[[[", ATOM);
        goes(LAW, "y:c=c&[[[[[[", without(ATOM, "["));
        goes(LAW, "y:!c=[[[[[", without(ATOM, "["));
    }

    private static void plans() {
        says("MOVES with , between, one at least (40 at most): a letter A .. L and a DESK's letter a .. l");
        goes(PLAN, "", CLERKS);
        goes(PLAN, "A", DESKS);
        goes(PLAN, "L", DESKS);
        ends(PLAN, "Aa", ",");
        ends(PLAN, "Ll", ",");
        goes(PLAN, "Aa,", CLERKS);
        goes(PLAN, "Aa,A", DESKS);
        ends(PLAN, "Aa,Aa", ",");
        says("(the , ahead of a forty-first MOVE is wrong)");
        String most = "Aa" + times(",Bb", 38);
        ends(PLAN, most, ",");
        goes(PLAN, most + ",", CLERKS);
        ends(PLAN, most + ",Ll", "");
        due("moves of thirty-nine", taken(PLAN, most), 39);
        due("moves of forty", taken(PLAN, most + ",Ll"), 40);
        due("moves of forty-one", taken(PLAN, most + ",Ll,Aa"), NONE);
        due("moves of forty and a comma", taken(PLAN, most + ",Ll,"), NONE);
    }

    /** What text answers, with an office ahead. */
    private static int taken(int sort, String s) {
        DeskMoves x = fed("A.;ab");
        x.text(0);
        for (int from = 0; from < s.length(); from += 4) {
            int four = 0;
            for (int i = from; i < from + 4; i++) {
                four = four << 8 | (i < s.length() ? s.charAt(i) & 255 : 0);
            }
            x.feed(0, 0, four, 0, 0);
        }
        return x.text(sort);
    }

    /** Every beginning of a text can go on: it is a text itself, or ends too early. */
    private static void beginnings(int sort, String text) {
        due("fault of '" + text + "'", faultOf(sort, text), NONE);
        for (int n = 0; n < text.length(); n++) {
            DeskMoves x = fed(text);
            x.end(n);
            int fault = x.fault(sort);
            due("fault of the first " + n + " of '" + text + "'", fault, fault == NONE ? NONE : n);
        }
    }

    private static void earlyEnds() {
        says("(the length, if it ends too early)");
        beginnings(OFFICE, " A B . C ; a b 2 , b c , c d 9 ; A B , C A ");
        beginnings(OFFICE, "ABCDEFGHIJK.;ab,bc,cd,de,ef,fg,gh,hi,ij,jk,kl,la,ac9,ad8,ae7;AB,CD,KA");
        beginnings(LAW, " y : ! ( b > 1 ) ? [ l - r * 2 ] / 9 ; y : 1 2 3 4 ");
        beginnings(LAW, "y:!(!(![f]=1)|c<1&t>2)?[c+[f-1]];y:(l=1|r=2)&!p=3?q*2");
        beginnings(PLAN, " A a , B b , L l ");
        for (int sort = 0; sort < 3; sort++) {
            due("nothing", faultOf(sort, ""), 0);
            due("blanks", faultOf(sort, " "), 1);
            due("blanks to the full", faultOf(sort, times(" ", 160)), 160);
        }
    }

    /** Texts of 160 bytes: the longest that a tape has. */
    private static void fullTapes() {
        says("NONE: more than 160");
        String[] texts = {"A.;ab", "y:c", "Aa"};
        for (int sort = 0; sort < 3; sort++) {
            String text = texts[sort];
            String late = times(" ", 160 - text.length()) + text;
            String early = text + times(" ", 160 - text.length());
            due("with blanks ahead", faultOf(sort, late), NONE);
            due("with blanks behind", faultOf(sort, early), NONE);
            due("wrong at the last byte", faultOf(sort, early.substring(0, 159) + "?"), 159);
            due("a comma too early at the end", faultOf(PLAN, times(" ", 157) + "Aa,"), 160);
        }
    }

    public static void main(String[] args) {
        readDocument();
        seats();
        doors();
        quarrels();
        clauses();
        conditions();
        sums();
        nesting();
        plans();
        earlyEnds();
        fullTapes();
        System.out.println(asked + " answers asked, " + wrong + " are not as due");
        if (wrong != 0) {
            System.exit(1);
        }
    }
}
