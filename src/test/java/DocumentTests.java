import java.lang.reflect.InvocationTargetException;
import java.lang.reflect.Method;
import java.nio.charset.StandardCharsets;
import java.nio.file.Files;
import java.nio.file.Path;
import java.util.HashMap;
import java.util.Map;
import java.util.NoSuchElementException;

/**
 * The document from its first line to its last: each sentence in its place, and behind it runs of calls
 * that show it. A sentence that is left out or is not the document's next one fails.
 *
 * <p>A run is on a new object, one call a line: the method, its numbers, = and the answer that is due.
 * Clerks and desks may be written by their letters, a move as its two letters, as in a plan.
 * TAPE, OFFICE, LAW and PLAN feed what follows (behind end(0)) and, but for TAPE, take it; WISHES wishes
 * for the desks from a on (_ nothing, . empty); SEATS tells who sits there.
 */
public final class DocumentTests {
    private static final long THROWN = Long.MIN_VALUE;

    private static final Map<String, Method> FACE = new HashMap<>();
    private static String document = "";
    private static int at;
    private static String sentence = "";
    private static int sentences;
    private static int asked;
    private static int wrong;

    private static void complain(String what) {
        wrong++;
        System.out.println("'" + sentence + "': " + what);
    }

    private static void due(String what, long got, long want) {
        asked++;
        if (got != want) {
            complain(what + " answered " + got + ", due is " + want);
        }
    }

    /** The document's next words. */
    private static void says(String words) {
        sentence = words;
        sentences++;
        while (at < document.length() && document.charAt(at) == ' ') {
            at++;
        }
        if (document.startsWith(words, at)) {
            at += words.length();
        } else {
            complain("the document goes on with '" + document.substring(at, Math.min(at + 60, document.length())) + "'");
        }
    }

    // ---- runs

    private static void run(String lines) {
        DeskMoves x = new DeskMoves();
        for (String line : lines.split("\n")) {
            String s = line.strip();
            int blank = s.indexOf(' ');
            String word = blank < 0 ? s : s.substring(0, blank);
            String rest = blank < 0 ? "" : s.substring(blank + 1);
            switch (word) {
                case "TAPE": feed(x, rest); break;
                case "OFFICE": take(x, 0, rest); break;
                case "LAW": take(x, 1, rest); break;
                case "PLAN": take(x, 2, rest); break;
                case "WISHES": wish(x, rest); break;
                case "SEATS": sit(x, rest); break;
                default: call(x, s); break;
            }
        }
    }

    private static void feed(DeskMoves x, String s) {
        x.end(0);
        for (int from = 0; from < s.length(); from += 20) {
            int[] five = new int[5];
            for (int i = 0; i < 20 && from + i < s.length(); i++) {
                five[i / 4] |= (s.charAt(from + i) & 255) << 24 - i % 4 * 8;
            }
            x.feed(five[0], five[1], five[2], five[3], five[4]);
        }
    }

    private static void take(DeskMoves x, int sort, String s) {
        feed(x, s);
        if (x.text(sort) == DeskMoves.NONE) {
            complain("not taken: " + s);
        }
    }

    private static void wish(DeskMoves x, String s) {
        for (int d = 0; d < s.length(); d++) {
            x.wish(d, DeskMoves.NONE);
        }
        for (int d = 0; d < s.length(); d++) {
            char c = s.charAt(d);
            due("wish for " + d, x.wish(d, c == '_' ? -1 : c == '.' ? 12 : c - 'A') ? 1 : 0, 1);
        }
    }

    private static void sit(DeskMoves x, String s) {
        due("desks", x.told(0), s.length());
        for (int d = 0; d < s.length() && d < x.told(0); d++) {
            due("who sits at " + d, x.desk(d), s.charAt(d) == '.' ? -1 : s.charAt(d) - 'A');
        }
    }

    private static void call(DeskMoves x, String s) {
        String[] sides = s.split(" = ");
        String[] words = sides[0].split(" ");
        Method m = FACE.get(words[0]);
        if (m == null || sides.length != 2 || m.getParameterCount() != words.length - 1) {
            complain("no such call: " + s);
            return;
        }
        Object[] numbers = new Object[words.length - 1];
        for (int i = 0; i < numbers.length; i++) {
            numbers[i] = (int) number(words[i + 1]);
        }
        due(s, answer(m, x, numbers), number(sides[1]));
    }

    private static long answer(Method m, DeskMoves x, Object[] numbers) {
        try {
            Object got = m.invoke(x, numbers);
            return got instanceof Boolean b ? b ? 1 : 0 : (Integer) got;
        } catch (InvocationTargetException e) {
            if (!(e.getCause() instanceof NoSuchElementException)) {
                complain(m.getName() + " throws " + e.getCause());
            }
            return THROWN;
        } catch (IllegalAccessException e) {
            complain(e.toString());
            return THROWN;
        }
    }

    private static long number(String s) {
        switch (s) {
            case "NONE": return -1;
            case "HIDDEN": return -1000000;
            case "EMPTY": return 12;
            case "LEAST": return Integer.MIN_VALUE;
            case "MOST": return Integer.MAX_VALUE;
            case "true": return 1;
            case "false": return 0;
            case "throws": return THROWN;
            default: break;
        }
        if (s.matches("[A-L][A-La-l]")) {
            return 16 * number(s.substring(0, 1)) + number(s.substring(1));
        }
        char first = s.charAt(0);
        if (s.matches("[A-L]")) {
            return first - 'A';
        }
        return s.matches("[a-l]") ? first - 'a' : Long.parseLong(s);
    }

    /** The fault of each text, on a tape of its own. */
    private static void faults(int sort, Object... textsAndFaults) {
        for (int i = 0; i < textsAndFaults.length; i += 2) {
            String s = (String) textsAndFaults[i];
            int want = (Integer) textsAndFaults[i + 1];
            DeskMoves x = new DeskMoves();
            feed(x, s);
            due("fault of '" + s + "'", x.fault(sort), want);
            if (sort < 2) {
                due("taking '" + s + "'", x.text(sort) == -1 ? 1 : 0, want == -1 ? 0 : 1);
                due("tape behind '" + s + "'", x.told(3), want == -1 ? 0 : s.length());
            }
        }
    }

    /** The worth of a law is that number: told by laws of the form y:[sum]=n?1, as no call tells it. */
    private static void worth(String sum, int want) {
        String number = want < 0 ? "[0-1]*" + divided(-want) : divided(want);
        run("OFFICE A.;ab\nLAW y:[" + sum + "]=" + number + "?1\nlaw 0 = true\nlet A b = 1");
    }

    private static String divided(int n) {
        return n <= 9999 ? "" + n : "[" + n / 1000 + "*1000+" + n % 1000 + "]";
    }

    private static void holds(String condition, int want) {
        run("OFFICE A.;ab\nLAW y:" + condition + "?1;y:0\nlaw 0 = true\nlet A b = " + want);
    }

    // ---- what it is, and the face

    private static void whatItIs() {
        says("# DeskMoves");
        says("## What it is");
        says("One desk is empty: offices of desks joined by doors, told as texts, with who sits where and who quarrels;"
            + " moves of clerks into empty desks, let by a law told as a text, costs by papers carried;"
            + " a diary, plans that are judged move by move;"
            + " the fewest moves to a seating that is wished, the cheapest, all that can be come to, or a proof that it can't;"
            + " turns of whole offices, even and odd; who is ill;"
            + " worths of desks, exchanges that two or more agree on, the best seating, who gains by a false wish, votes;"
            + " images. ==== 1.");
        run("""
            OFFICE A.;ab
            told 0 = 2
            """);
        says("An object is used for at most 512 calls after it has been made; what later calls answer is free.");
        DeskMoves x = new DeskMoves();
        x.feed(0x412E3B61, 0x62000000, 0, 0, 0);
        x.text(0);
        for (int call = 3; call <= 511; call++) {
            due("call " + call, x.move(0, call % 2), 1);
        }
        due("call 512", x.told(5), 100);
    }

    private static void face() {
        says("## The public face ```java");
        says("import java.util.NoSuchElementException; public final class DeskMoves {");
        says("public static final int NONE = -1;");
        due("NONE", DeskMoves.NONE, -1);
        says("public static final int HIDDEN = -1000000;");
        due("HIDDEN", DeskMoves.HIDDEN, -1000000);
        says("public DeskMoves();");
        due("constructors", DeskMoves.class.getConstructors().length, 1);
        int methods = 0;
        while (document.startsWith(" public ", at)) {
            String row = document.substring(at + 1, document.indexOf(';', at) + 1);
            says(row);
            methods++;
            String name = row.replaceAll(".* (\\w+)\\(.*", "$1");
            Method m = FACE.get(name);
            if (m == null) {
                complain("no method " + name);
            } else {
                due(name + " answers a boolean", m.getReturnType() == boolean.class ? 1 : 0, row.contains(" boolean ") ? 1 : 0);
                due(name + " takes", m.getParameterCount(), row.split("int ", -1).length - 1 - (row.startsWith("public int ") ? 1 : 0));
                due(name + " throws", m.getExceptionTypes().length, row.contains("throws") ? 1 : 0);
            }
        }
        due("methods", methods, 35);
        due("public methods", FACE.size(), methods);
        says("} ```");
    }

    // ---- terms 1: texts

    private static void officeTerms() {
        says("## Terms");
        says("An OFFICE is a TEXT: SEATS ; DOORS, perhaps ; QUARRELS.");
        faults(0, "AB.;ab", -1, "AB.;ab;AB", -1, "AB.", 3, "AB.;", 4, "AB.;ab;", 7, "AB.;ab;AB;", 9, "AB.,ab", 3, "AB.;ab:AB", 6);
        says("SEATS: for each DESK (2 .. 12; letters a .. l in this order) a CLERK, a letter A .. L, each once at most, or a dot (EMPTY).");
        run("""
            OFFICE C.LA;ad
            SEATS C.LA
            told 0 = 4
            told 1 = 2053
            door a d = 1
            OFFICE LKJIHGFEDCB.;al
            SEATS LKJIHGFEDCB.
            told 1 = 4094
            door a l = 1
            OFFICE .A;ab
            SEATS .A
            """);
        faults(0, "A;ab", 1, ".;ab", 1, "ABCDEFGHIJK.;kl", -1, "ABCDEFGHIJK..;", 12, "M.;ab", 0, "a.;ab", 0, "A.A;ab", 2,
            "@.;ab", 0, "A.-;ab", 2, "A./;ab", 2);
        says("DOORS: pairs of DESKS with , between, one at least: two letters, unlike, each pair once at most (either way),"
            + " perhaps LENGTH (1 .. 9; 1 without).");
        run("""
            OFFICE A...;ab,cb9,cd1
            door a b = 1
            door b a = 1
            door b c = 9
            door c b = 9
            door d c = 1
            door a c = NONE
            door a a = NONE
            """);
        faults(0, "A..;ab1,bc9,ca5", -1, "A..;ab,bc,", 10, "A..;ab bc", 7, "A..;aab", 5, "A..;ab,ba", 8, "A..;ab,ab", 8,
            "A..;ab2,ab", 9, "A..;ab0", 6, "A..;ab10", 7, "A..;ab99", 7, "A..;,ab", 4, "A..;a9", 5, "A..;AB", 4, "A..;ad", 5);
        says("QUARRELS: pairs of CLERKS who sit there, likewise (without LENGTH).");
        run("""
            OFFICE ABC.D;ab;AB,DC
            quarrel A B = 1
            quarrel B A = 1
            quarrel C D = 1
            quarrel A C = 0
            quarrel A A = NONE
            """);
        faults(0, "ABC.;ab;AB,AC,BC", -1, "ABC.;ab;AD", 9, "ABC.;ab;DA", 8, "ABC.;ab;AA", 9, "ABC.;ab;AB,BA", 12,
            "ABC.;ab;AB1", 10, "ABC.;ab;AB,", 11, "ABC.;ab;A", 9, "ABC.;ab;.A", 8, "ABC.;ab;ab", 8, "ABC.;ab;AB BC", 11);
        says("One EMPTY DESK and one CLERK at least.");
        faults(0, "AB;ab", 2, "..;ab", 2, "A.;ab", -1, ".A;ab", -1, "A...........;ab", -1);
        says("FAULT: the first byte at which no OFFICE can go on (the length, if it ends too early):");
        faults(0, "", 0, "A", 1, "A.", 2, "A.;", 3, "A.;a", 4, "A.;ab,", 6, "A.;ab,a", 7, "A.;ab;", 6, "AB.;ab;A", 8, "  ", 2,
            "A. ", 3, "A.;a ", 5, "A.;abA", 5, "A.;ab.", 5, "x", 0, "A.;ab" + (char) 10, 5);
        says("a thirteenth DESK, a CLERK told twice, a letter that is no DESK's, no CLERK's there,"
            + " a second letter by which the pair is alike, or was there, are wrong at it;");
        faults(0, "............A", 12, ".............", 12, "ABCDEFGHIJKL.", 12, "ABCDEFGHIJKA", 11, ".AA", 2, "A.;c", 3, "A.;ac", 4,
            "A.;ab;B", 6, "A.;ab;AB", 7, "A.;bb", 4, "A.;ba,ab", 7, "AB.;ab;BB", 8, "AB.;ab;BA,AB", 11);
        says("the ; behind too few DESKS, without an EMPTY one or a CLERK, at it.");
        faults(0, ";", 0, "A;", 1, ".;", 1, "AB;", 2, "..;", 2, " . ;", 3, "ABCDEFGHIJKL;", 12, "............;", 12);
    }

    private static void lawTerms() {
        says("```text");
        says("LAWS (4 at most) are TEXTS: CLAUSES with ; between, one at least: y, : , perhaps CONDITION ?, then SUM.");
        run("""
            TAPE y:1
            text 1 = 0
            TAPE y:2;y:3
            text 1 = 1
            TAPE y:1=1?2;y:3
            text 1 = 2
            TAPE y:4
            text 1 = 3
            TAPE y:5
            fault 1 = NONE
            text 1 = NONE
            told 2 = 4
            told 3 = 3
            """);
        faults(1, "", 0, "y", 1, "y:", 2, "y:1", -1, "y:1;", 4, "y:1;y:1", -1, "z:1", 0, "y;1", 1, "y:1,y:1", 3, "y:1=1", 5, "y:1=1?", 6,
            "y:?1", 2, "y:1?1", 3, "y:;", 2, ";", 0);
        says("CONDITION: TRUTHS with | between; TRUTH: UNITS with & between;");
        holds("1=2|1=1", 1);
        holds("1=2|2=1", 0);
        holds("1=1&2=2", 1);
        holds("1=1&1=2", 0);
        holds("1=1|1=1&1=2", 1);
        holds("1=2&1=1|1=1", 1);
        holds("1=2&1=1|1=1&1=2", 0);
        says("UNIT: ! UNIT, ( CONDITION ), or SUM, one of = < >, SUM.");
        holds("!1=2", 1);
        holds("!1=1", 0);
        holds("!!1=1", 1);
        holds("!1=1|1=1", 1);
        holds("!(1=1|1=1)", 0);
        holds("!1=2&1=2", 0);
        holds("(1=1|1=1)&1=2", 0);
        holds("1<2", 1);
        holds("2<2", 0);
        holds("3<2", 0);
        holds("3>2", 1);
        holds("2>2", 0);
        holds("1>2", 0);
        holds("2=2", 1);
        holds("1+1=4/2", 1);
        faults(1, "y:1<>", 4, "y:1=<", 4, "y:1!1", 3, "y:(1=1?", 6, "y:(1=1)=", 7, "y:1=1=1", 5, "y:!1?", 4, "y:(1)", 4);
        says("SUM: TERMS with + or - between; TERM: ATOMS with * or / between; ATOM: a number (1 to 4 digits), a letter (c f t l r p b q), [ SUM ].");
        worth("1+2*3", 7);
        worth("[1+2]*3", 9);
        worth("9-3-2", 4);
        worth("9-[3-2]", 8);
        worth("8/4/2", 1);
        worth("8/[4/2]", 4);
        worth("2*7/3", 4);
        worth("7/3*2", 4);
        worth("9999+1", 10000);
        worth("0007", 7);
        worth("1-2", -1);
        faults(1, "y:c+f+t+l+r+p+b+q", -1, "y:1234", -1, "y:12345", 6, "y:a", 2, "y:C", 2, "y:-1", 2, "y:1+-1", 4, "y:[]", 3, "y:[1", 4,
            "y:[1=1]", 4, "y:c1", 3, "y:1c", 3, "y:1[", 3, "y:1*", 4, "y:1%", 3);
        says("(A CLAUSE that goes on with ! or ( behind its : has a CONDITION.)");
        faults(1, "y:(1", 4, "y:(1)", 4, "y:(1=1)", 7, "y:(1=1);", 7, "y:(1=1)?1", -1, "y:!1=1", 6, "y:!1=1?1", -1, "y:(1+1", 6,
            "y:1=1?(", 6, "y:1=1?!", 6);
        says("At most six of ( [ ! within one another.");
        faults(1, "y:[[[[[[1]]]]]]", -1, "y:((((((1=1))))))?1", -1, "y:!!!!!!1=1?1", -1, "y:!(!([[1]]=1))?1", -1, "y:[1]+[1]+[1]+[1]+[1]+[1]+[1]", -1,
            "y:!1=1&!1=1&!1=1&!1=1&!1=1&!1=1&!1=1?1", -1);
        says("FAULT likewise; a fifth digit, a seventh of these are such.");
        faults(1, "y:00000", 6, "y:1=1?12345", 10, "y:[[[[[[[", 8, "y:(((((((", 8, "y:!!!!!!!", 8, "y:!(!(![[", 8, "y:!!!!!!(", 8, "y:!!!!!![", 8,
            "y:1=[[[[[[[", 10);
        says("Behind each sign numbers are within -1,000,000 .. 1,000,000;");
        worth("1000*1000", 1000000);
        worth("1000*1001", 1000000);
        worth("9999*9999", 1000000);
        worth("9999*9999*9999*9999", 1000000);
        worth("1000*1000+1", 1000000);
        worth("1000*1000+1-1", 999999);
        worth("0-9999*9999", -1000000);
        worth("0-9999*9999-1+1", -999999);
        worth("[0-9999]*9999+1", -999999);
        worth("9999*9999/1000", 1000);
        says("/ cuts towards 0, by 0 gives 0.");
        worth("7/2", 3);
        worth("[0-7]/2", -3);
        worth("7/[0-2]", -3);
        worth("[0-7]/[0-2]", 3);
        worth("7/0", 0);
        worth("7/[1-1]+5", 5);
        worth("0/0", 0);
        says("WORTH: the SUM of the first CLAUSE whose CONDITION holds (or has none), 0 without.");
        run("""
            OFFICE A.;ab
            LAW y:1=1?1;y:0
            LAW y:1=2?0;y:2=2?5;y:3=3?0
            LAW y:1=2?9
            LAW y:0;y:9
            law 0 = true
            let A b = 1
            law 1 = true
            let A b = 1
            law 2 = true
            let A b = 0
            law 3 = true
            let A b = 0
            """);
    }

    private static void planTerms() {
        says("PLANS are TEXTS: MOVES with , between, one at least (40 at most): a letter A .. L and a DESK's letter a .. l.");
        faults(2, "Aa", -1, "Ll", -1, "Aa,Bb", -1, "", 0, "A", 1, "Aa,", 3, "Aa,B", 4, "aA", 0, "AA", 1, "Am", 1, "Ma", 0, "AaBb", 2, "Aa;", 2,
            "Aa1", 2, ".a", 0, "A.", 1);
        says("FAULT likewise (the , ahead of a forty-first MOVE is wrong).");
        String forty = "Aa" + ",Lb".repeat(39);
        faults(2, forty, -1, forty + ",", 119, forty + ",Aa", 119, forty + " ,", 120, forty + "A", 119, "Aa" + ",Lb".repeat(38) + ",", 117);
        run("OFFICE A.;ab\nTAPE " + forty + "\ntext 2 = 40\ntold 4 = 40");
        says("In all TEXTS blanks (32) may stand between all signs.");
        faults(0, "  A  .  ;  a  b  9  ", -1, " A B . ; a b , b c 2 ; A B ", -1, "A.;ab" + (char) 9, 5, "A.;ab" + (char) 160, 5);
        faults(1, " y : ! ( 1 = [ 2 + 3 ] ) ? 4 ; y : 5 ", -1, "y:1 2", -1, "y:1 2 3 4 5", 10);
        faults(2, " A a , B b ", -1);
        says("```");
    }

    // ---- terms 2: moves

    private static void moveTerms() {
        says("==== 2. CLERKS are numbered by letters (A 0); DESKS from a (0).");
        run("""
            OFFICE .L.B;ab
            desk 0 = NONE
            desk 1 = 11
            desk 3 = 1
            clerk 1 0 = 3
            clerk 11 0 = 1
            clerk 0 0 = NONE
            """);
        says("RANK of a CLERK (0 .. 9; 0 at first), PAPERS (0 .. 9; 1).");
        run("""
            OFFICE AB.;ab
            clerk A 1 = 0
            clerk A 2 = 1
            set A 0 9 = true
            set A 0 10 = false
            set A 0 -1 = false
            set A 1 0 = true
            set A 1 10 = false
            set A 1 -1 = false
            clerk A 1 = 9
            clerk A 2 = 0
            set A 1 9 = true
            clerk A 2 = 9
            clerk B 1 = 0
            clerk B 2 = 1
            """);
        says("A MOVE: a CLERK from its DESK through a DOOR to an EMPTY one;");
        run("""
            OFFICE AB..;ab,bc,ad
            let A d = 1
            let B c = 1
            let A b = NONE
            let A c = NONE
            let B d = NONE
            let A a = NONE
            move A d = 1
            SEATS .B.A
            move A a = 1
            SEATS AB..
            """);
        says("it is LET, if there is no LAW that holds (at first; one of the LAWS, or none, is told to hold), or WORTH of that is above 0.");
        run("""
            LAW y:0
            LAW y:1
            LAW y:0-1
            OFFICE A.;ab
            told 6 = NONE
            let A b = 1
            law 0 = true
            told 6 = 0
            let A b = 0
            law 2 = true
            let A b = 0
            law 1 = true
            let A b = 1
            law 0 = true
            move A b = NONE
            SEATS A.
            law NONE = true
            told 6 = NONE
            move A b = 1
            """);
        says("Letters: c the CLERK, f, t DESKS from, to, l LENGTH, r RANK, p PAPERS, b how many others sit BESIDE it there (by a DOOR),"
            + " q with how many of these it QUARRELS.");
        // B goes from b to c; there sit C and D (and G two doors away), beside b sits A; B quarrels with A, C, D and G.
        for (String law : new String[] {"c=1", "f=1", "t=2", "l=7", "r=4", "p=6", "b=3", "q=2"}) {
            run("OFFICE AB.CDEG;ab,bc7,cd,ce,cf,fg;AB,BC,BD,BG\nset B 0 4 = true\nset B 1 6 = true\nLAW y:" + law + "?1\nlaw 0 = true\nlet B c = 1");
        }
        says("COST: PAPERS times LENGTH.");
        run("""
            OFFICE A.B;ab9,bc4
            move A b = 9
            undo = 0
            set A 1 9 = true
            move A b = 81
            move A c = NONE
            undo = 0
            set B 1 0 = true
            move B b = 0
            """);
        says("The DIARY keeps the latest 100 MOVES; they can be UNDONE, one by one.");
        StringBuilder hundred = new StringBuilder("OFFICE A..;ab,bc,ca\n");
        for (int i = 1; i <= 101; i++) {
            hundred.append("move A ").append(i % 3).append(" = 1\n");
        }
        hundred.append("told 5 = 100\ndiary 0 = Ac\ndiary 1 = Aa\ndiary 99 = Ac\ndiary 100 = NONE\n");
        for (int i = 99; i >= 0; i--) {
            hundred.append("undo = ").append(i).append('\n');
        }
        hundred.append("undo = NONE\nSEATS .A.");
        run(hundred.toString());
    }

    private static void planJudgement() {
        says("```text");
        says("A PLAN JUDGED from the seating as it is, by rules (bits: 1 no CLERK moves twice, 2 nobody moves behind one of higher RANK,"
            + " 4 behind no MOVE two sit BESIDE one another who QUARREL):");
        run("""
            OFFICE A..;ab,bc,ca
            PLAN Ab,Ac
            judge 0 0 = NONE
            judge 1 0 = 1
            judge 1 1 = 5
            judge 2 0 = NONE
            judge 4 0 = NONE
            judge 7 1 = 5
            move A c = 1
            judge 0 0 = NONE
            judge 0 2 = 2
            SEATS ..A
            told 5 = 1
            move A b = 1
            judge 0 0 = 0
            judge 0 1 = 2
            """);
        run("""
            OFFICE ABC..;ad,be,cd
            set A 0 3 = true
            set B 0 2 = true
            set C 0 3 = true
            PLAN Ad,Be
            judge 2 0 = 1
            judge 2 1 = 6
            judge 5 0 = NONE
            set B 0 3 = true
            judge 2 0 = NONE
            set B 0 4 = true
            judge 2 0 = NONE
            PLAN Be,Ad
            judge 2 0 = 1
            judge 2 1 = 6
            set B 0 2 = true
            judge 2 0 = NONE
            """);
        run("""
            OFFICE A.B.C;ab,bc,cd,de;AB
            PLAN Ab
            judge 4 0 = 0
            judge 4 1 = 7
            judge 3 0 = NONE
            PLAN Cd,Ab
            judge 4 0 = 1
            judge 4 1 = 7
            PLAN Bd,Ab
            judge 4 0 = NONE
            move A b = 1
            PLAN Cd
            judge 4 0 = 0
            judge 4 1 = 7
            """);
        says("the first MOVE that can't be made, is not LET, or breaks one of these;");
        run("""
            OFFICE AB..;ac,bd,cd
            PLAN Ac,Ad,Bd,Aa
            judge 0 0 = 2
            judge 1 0 = 1
            LAW y:1-c
            law 0 = true
            PLAN Ac,Bd,Ad
            judge 0 0 = 1
            judge 0 1 = 4
            """);
        says("why: 1 no such CLERK there or no DESK, 2 no DOOR, 3 not EMPTY, 4 not LET, 5 twice, 6 RANK, 7 QUARREL (the least that is so);");
        run("""
            OFFICE AB..;ab,bc,cd;AB
            LAW y:2-t
            PLAN Ca
            judge 0 1 = 1
            PLAN Ae
            judge 0 1 = 1
            PLAN Al
            judge 0 1 = 1
            PLAN Ac
            judge 0 1 = 2
            PLAN Aa
            judge 0 1 = 2
            PLAN Ab
            judge 0 1 = 3
            PLAN Bc
            judge 0 1 = 0
            law 0 = true
            judge 0 1 = 4
            law NONE = true
            PLAN Bc,Bb
            judge 1 1 = 5
            judge 7 1 = 5
            judge 6 1 = 7
            judge 4 0 = 1
            PLAN Bc,Ab
            set B 0 1 = true
            judge 6 1 = 6
            judge 4 1 = 7
            PLAN Bc,Ba
            judge 7 1 = 2
            """);
        says("its COST up to there.");
        run("""
            OFFICE AB...;ac3,ce2,bd5,ab
            set B 1 2 = true
            PLAN Ac,Bd,Ae
            judge 0 2 = 15
            judge 1 2 = 13
            PLAN Ab,Ac
            judge 0 2 = 0
            PLAN Ac,Ad
            judge 0 2 = 3
            """);
        says("```");
    }

    // ---- terms 3: ways

    private static void wayTerms() {
        says("==== 3. WISHES: for each DESK a CLERK, that it be EMPTY, or nothing (at first).");
        run("""
            OFFICE AB.;ab,bc
            done = 1
            wish a B = true
            done = 0
            wish a NONE = true
            done = 1
            wish a EMPTY = true
            done = 0
            """);
        says("DONE: a seating in which all are so.");
        run("""
            OFFICE AB.;ab,bc
            WISHES A_.
            done = 1
            WISHES .AB
            done = 0
            move B c = 1
            done = 0
            move A b = 1
            done = 1
            """);
        says("For OFFICES of no more than 8 DESKS:");
        run("""
            OFFICE ABCDEFG.;ab,bc,cd,de,ef,fg,gh
            fewest NONE = 0
            cheapest = 0
            all 0 = 8
            count 7 = 1
            ill A = 0
            holds = 0
            OFFICE ABCDEFGH.;ab,bc,cd,de,ef,fg,gh,hi
            fewest NONE = HIDDEN
            cheapest = HIDDEN
            all 0 = HIDDEN
            count 0 = HIDDEN
            ill A = HIDDEN
            holds = HIDDEN
            """);
        says("FEWEST: the fewest MOVES, all LET, from the seating as it is to one that is DONE;");
        run("""
            OFFICE A...;ab,bc,cd,ad
            WISHES __A_
            fewest NONE = 2
            WISHES ___A
            fewest NONE = 1
            fewest 0 = Ad
            LAW y:f=0&t=3?0;y:1
            law 0 = true
            fewest NONE = 3
            fewest 0 = Ab
            fewest 1 = Ac
            fewest 2 = Ad
            law NONE = true
            fewest NONE = 1
            """);
        says("of several such rows that whose first MOVE has the lowest CLERK, then DESK it goes to, then the second, and so on.");
        run("""
            OFFICE BA..;ac,ad,bc,bd
            WISHES __BA
            fewest NONE = 2
            fewest 0 = Ad
            fewest 1 = Bc
            WISHES ..__
            fewest NONE = 2
            fewest 0 = Ac
            fewest 1 = Bd
            """);
        run("""
            OFFICE A.....;ab,ac,bd,ce,df,ef,be
            WISHES _____A
            fewest NONE = 3
            fewest 0 = Ab
            fewest 1 = Ad
            fewest 2 = Af
            """);
        says("CHEAPEST: the least COST together.");
        run("""
            OFFICE A..;ab9,ac2,cb3
            WISHES _A_
            fewest NONE = 1
            cheapest = 5
            set A 1 3 = true
            cheapest = 15
            set A 1 0 = true
            cheapest = 0
            """);
        says("ALL: how many seatings can be come to (the one that is, too); FAR: of these the greatest number of FEWEST MOVES to one.");
        run("""
            OFFICE AB.;ab,bc,ca
            all 0 = 6
            all 1 = 3
            OFFICE AB.;ab,bc
            all 0 = 3
            all 1 = 2
            OFFICE AB.;ab
            all 0 = 1
            all 1 = 0
            OFFICE A...;ab,bc,cd
            all 0 = 4
            all 1 = 3
            """);
        says("If none is DONE, that ALL is the proof.");
        run("""
            OFFICE AB.;ab,bc
            WISHES BA.
            fewest NONE = NONE
            fewest 0 = NONE
            cheapest = NONE
            all 0 = 3
            """);
        says("COUNT of MOVES k (0 .. 60): how many seatings are come to by k MOVES and no fewer.");
        run("""
            OFFICE AB.;ab,bc,ca
            count 0 = 1
            count 1 = 2
            count 2 = 2
            count 3 = 1
            count 4 = 0
            count 60 = 0
            count 61 = HIDDEN
            count -1 = HIDDEN
            """);
    }

    private static void illTerms() {
        says("```text");
        says("ILL: with one CLERK who makes no MOVES (all else alike;"
            + " the WISH for the DESK where it sits, and that for it elsewhere, left out): CHEAPEST then.");
        run("""
            OFFICE A.B.;ab3,bc2,cd
            WISHES .___
            ill A = 0
            ill B = 3
            WISHES _B__
            ill A = 2
            ill B = 0
            WISHES _A__
            ill A = 0
            ill B = 3
            WISHES .AB_
            ill A = 0
            ill B = 3
            WISHES __AB
            ill A = 1
            ill B = 0
            WISHES B__A
            ill A = 0
            ill B = NONE
            """);
        says("HOLDS: the greatest of these over all CLERKS, if all can be.");
        run("""
            OFFICE A.B.;ab3,bc2,cd
            WISHES __AB
            holds = 1
            WISHES .___
            holds = 3
            WISHES B__A
            holds = NONE
            """);
    }

    private static void turnTerms() {
        says("TURNS of an OFFICE (any number of DESKS; one EMPTY, LAWS left out):");
        run("""
            OFFICE ABCDEFGHIJK.;ab,bc,cd,de,ef,fg,gh,hi,ij,jk,kl,la
            sort = 2
            WISHES KABCDEFGHIJ.
            can = 1
            WISHES BACDEFGHIJK.
            can = 0
            OFFICE A..;ab,bc,ca
            sort = NONE
            OFFICE AB.;ab,bc
            LAW y:0
            law 0 = true
            sort = 1
            WISHES .AB
            can = 1
            fewest NONE = NONE
            """);
        says("SORT: 0 not all joined by DOORS;");
        run("""
            OFFICE AB.;ab
            sort = 0
            OFFICE ABC.;ab,cd
            sort = 0
            OFFICE ABCDE.;ab,bc,ca,de,ef,fd
            sort = 0
            """);
        says("1 some DESK without which others are not joined (or two DESKS);");
        run("""
            OFFICE A.;ab
            sort = 1
            OFFICE AB.;ab,bc
            sort = 1
            OFFICE ABC.;ab,bc,ca,cd
            sort = 1
            OFFICE ABCD.;ab,bc,ca,cd,de,ec
            sort = 1
            """);
        says("2 a ring;");
        run("""
            OFFICE AB.;ab,bc,ca
            sort = 2
            OFFICE ABC.;ac,cb,bd,da
            sort = 2
            """);
        says("3 a ring of six with a way of two between DESKS across (seven DESKS, eight DOORS);");
        run("""
            OFFICE ABCDEF.;ab,bc,cd,de,ef,fa,ag,gd
            sort = 3
            OFFICE ABCDEF.;gb,bc,cd,de,ef,fg,ga,ad
            sort = 3
            OFFICE ABCDEF.;ab,bc,cd,de,ef,fa,ag,gc
            sort = 4
            OFFICE ABCDEF.;ab,bc,cd,de,ef,fa,ag,gb
            sort = 5
            OFFICE ABCDEF.;ab,bc,cd,de,ef,fg,ga,ad
            sort = 5
            OFFICE ABCDEF.;ab,bc,cd,de,ef,fa,ag,gd,gb
            sort = 5
            """);
        says("4 of two colours (each DOOR between unlike ones);");
        run("""
            OFFICE ABCDE.;ab,bc,de,ef,ad,be,cf
            sort = 4
            OFFICE ABCD.;ac,ad,ae,bc,bd,be
            sort = 4
            OFFICE ABCDEFGHIJK.;ab,bc,cd,de,ef,fg,gh,hi,ij,jk,kl,la,ad
            sort = 4
            """);
        says("5 any other.");
        run("""
            OFFICE ABC.;ab,bc,cd,da,ac
            sort = 5
            OFFICE ABCDE.;ab,bc,de,ef,ad,be,cf,ae
            sort = 5
            """);
        says("With WISHES for all DESKS that are a seating of all its CLERKS: CAN it be come to:");
        run("""
            OFFICE ABC.;ab,bc,cd,da,ac
            can = NONE
            WISHES BAC_
            can = NONE
            WISHES BA..
            can = NONE
            WISHES BAC.
            can = 1
            """);
        says("of SORT 2: whether CLERKS, going round the ring, are in one order;");
        run("""
            OFFICE ABC.;ab,bc,cd,da
            WISHES BCA.
            can = 1
            WISHES C.AB
            can = 1
            WISHES CBA.
            can = 0
            WISHES BAC.
            can = 0
            OFFICE AB.;ab,bc,ca
            WISHES BA.
            can = 1
            """);
        says("4: whether the number of exchanges of two (the EMPTY one counted as a CLERK) by which the seating becomes the WISHED one is even,"
            + " if the EMPTY DESKS of both have one colour, odd, if not;");
        run("""
            OFFICE ABCDE.;ab,bc,de,ef,ad,be,cf
            WISHES ABCDE.
            can = 1
            WISHES BACDE.
            can = 0
            WISHES BCADE.
            can = 1
            WISHES AB.DEC
            can = 1
            WISHES BA.DEC
            can = 0
            WISHES A.CDEB
            can = 0
            WISHES A.CDBE
            can = 1
            """);
        says("5: always;");
        run("""
            OFFICE ABCDE.;ab,bc,de,ef,ad,be,cf,ae
            WISHES BACDE.
            can = 1
            OFFICE ABCDEFGHIJK.;ab,bc,cd,de,ef,fg,gh,hi,ij,jk,kl,la,ac
            WISHES BACDEFGHIJK.
            can = 1
            """);
        says("of SORT 0, 1, 3 with no more than 8 DESKS: whether it is one of ALL (without a LAW); else it is not told.");
        run("""
            OFFICE AB.;bc
            WISHES A.B
            can = 1
            WISHES BA.
            can = 0
            OFFICE AB.;ab,bc
            LAW y:0
            law 0 = true
            WISHES A.B
            can = 1
            WISHES BA.
            can = 0
            OFFICE ABCDEFG.;ab,bc,cd,de,ef,fg,gh
            WISHES .ABCDEFG
            can = 1
            OFFICE ABCDEFGH.;ab,bc,cd,de,ef,fg,gh,hi
            WISHES .ABCDEFGH
            can = HIDDEN
            WISHES .ABCDEFG_
            can = NONE
            OFFICE ABCDEFGH.;ab,bc,cd,de,ef,fg,gh
            WISHES ABCDEFGH.
            can = HIDDEN
            """);
        says("```");
    }

    // ---- terms 4: worths

    private static void worthTerms() {
        says("==== 4. WORTH of a DESK to a CLERK (0 .. 99; 0 at first).");
        run("""
            OFFICE A.;ab
            seated A = 0
            worth A a 99 = true
            seated A = 99
            worth A a 100 = false
            worth A a -1 = false
            seated A = 99
            worth A a 0 = true
            seated A = 0
            """);
        says("SEATED as it is: what all have together; one's own.");
        run("""
            OFFICE AB.;ab,bc
            worth A a 7 = true
            worth B b 20 = true
            worth B c 30 = true
            worth A c 90 = true
            seated NONE = 27
            seated A = 7
            seated B = 20
            move B c = 1
            seated NONE = 37
            """);
        says("BEST seating (of all CLERKS on DESKS, anyhow): the greatest sum;");
        run("""
            OFFICE AB.;ab
            worth A a 5 = true
            worth A b 4 = true
            worth B a 5 = true
            worth B c 1 = true
            best NONE = 9
            best A = b
            best B = a
            worth B c 9 = true
            best NONE = 14
            best A = a
            best B = c
            """);
        says("of several that in which the lowest CLERK has the lowest DESK, then the next one.");
        run("""
            OFFICE B.A;ab
            best A = a
            best B = b
            worth A c 1 = true
            best A = c
            best B = a
            worth B c 1 = true
            best A = a
            best B = c
            """);
        says("GAINS by a false WISH: CLERK k tells 99 for one DESK and 0 for all others (all others tell the truth):"
            + " the most its own true WORTH is more in the BEST seating then than without; the DESK (of several the lowest).");
        run("""
            OFFICE AB.;ab
            worth A a 10 = true
            worth A b 9 = true
            worth B a 12 = true
            best A = b
            gains A 0 = 1
            gains A 1 = a
            gains B 0 = 0
            gains B 1 = a
            worth A a 9 = true
            gains A 0 = 0
            gains A 1 = a
            worth A a 8 = true
            gains A 0 = 0
            gains A 1 = b
            """);
    }

    private static void exchangeTerms() {
        says("```text");
        says("EXCHANGES, step by step, till all CLERKS have one: each CLERK left points to the DESK left with the greatest WORTH to it"
            + " (of several its own, then the lowest);");
        run("""
            OFFICE BA.;ab
            exchange A = b
            exchange B = a
            worth A a 1 = true
            worth A c 1 = true
            exchange A = c
            exchange B = a
            worth B b 1 = true
            exchange A = a
            exchange B = b
            """);
        says("if some point to one that is no CLERK's left, the lowest of these CLERKS gets that (its own DESK is left, and nobody's then);");
        run("""
            OFFICE AB.;ab
            worth A c 5 = true
            worth B c 9 = true
            exchange A = c
            exchange B = b
            worth B a 1 = true
            exchange B = a
            worth A c 0 = true
            exchange A = a
            exchange B = c
            """);
        says("else those who point to one another in a ring get what they point to (of several rings that with the lowest CLERK alone in this step).");
        run("""
            OFFICE ABCD.;ab
            worth A b 1 = true
            worth B c 1 = true
            worth C a 1 = true
            worth D a 9 = true
            worth D b 8 = true
            worth D e 7 = true
            exchange A = b
            exchange B = c
            exchange C = a
            exchange D = e
            worth C b 2 = true
            exchange A = a
            exchange B = c
            exchange C = b
            exchange D = e
            """);
        says("AGREE: pairs who would both have more by exchanging DESKS.");
        run("""
            OFFICE ABC.;ab
            agree NONE = 0
            worth A b 1 = true
            agree NONE = 0
            worth B a 1 = true
            agree NONE = 1
            agree 0 = AB
            worth A a 1 = true
            agree NONE = 0
            """);
        says("VOTE for exchanging what sits at two DESKS (one may be EMPTY):"
            + " how many of the other CLERKS would have fewer BESIDE them with whom they QUARREL than now, less how many would have more.");
        run("""
            OFFICE ABCD..;ab,bc,cd,ef;AB,BC,AD
            vote b e = 2
            vote a d = 1
            vote a e = 1
            vote e f = HIDDEN
            vote d e = 0
            vote a b = 1
            vote a c = -1
            """);
        says("An IMAGE keeps the seating and the DIARY; BACK: they are so again.");
        run("""
            OFFICE A..;ab,bc,ca
            move A b = 1
            image = 1
            move A c = 1
            move A a = 1
            set A 0 5 = true
            back = 1
            SEATS .A.
            told 5 = 1
            diary 0 = Ab
            clerk A 1 = 5
            undo = 0
            undo = NONE
            SEATS A..
            back = 1
            SEATS .A.
            """);
        says("```");
        says("What is refused answers as told and changes nothing.");
        run("""
            OFFICE AB.;ab,bc
            TAPE A.;a
            text 0 = NONE
            told 3 = 4
            SEATS AB.
            move A c = NONE
            SEATS AB.
            told 5 = 0
            set A 0 99 = false
            clerk A 1 = 0
            law 0 = false
            told 6 = NONE
            """);
        says("The constants: `NONE = -1`: None; refused.");
        says("`HIDDEN = -1000000`: Not told.");
    }

    // ---- promises

    private static void promisesOfTexts() {
        says("## Promise 1: A new object `DeskMoves()`: No OFFICE.");
        run("""
            told 0 = 0
            told 1 = 0
            told 2 = 0
            told 3 = 0
            told 4 = NONE
            told 5 = 0
            told 6 = NONE
            desk 0 = throws
            done = NONE
            sort = NONE
            """);
        says("## Promise 2: feed `int feed(int a, int b, int c, int d, int e)`: Twenty bytes more come to the TAPE"
            + " (of each number the highest first; bytes of 0 are left out): how many it has.");
        run("""
            feed 0 0 0 0 0 = 0
            feed 1093548897 1644167168 0 0 0 = 5
            text 0 = 2
            feed 65 0 46 59 24930 = 5
            text 0 = 2
            feed -1 LEAST MOST -256 255 = 13
            told 3 = 13
            """);
        says("NONE: more than 160.");
        run("""
            feed -1 -1 -1 -1 -1 = 20
            feed -1 -1 -1 -1 -1 = 40
            feed -1 -1 -1 -1 -1 = 60
            feed -1 -1 -1 -1 -1 = 80
            feed -1 -1 -1 -1 -1 = 100
            feed -1 -1 -1 -1 -1 = 120
            feed -1 -1 -1 -1 -1 = 140
            feed -1 -1 -1 -1 65535 = 158
            feed -1 0 0 0 0 = NONE
            feed 1 1 1 0 0 = NONE
            told 3 = 158
            feed 1 1 0 0 0 = 160
            feed 0 0 0 0 0 = 160
            feed 0 0 0 0 1 = NONE
            """);
        says("## Promise 3: end `boolean end(int n)`: The TAPE has its first n bytes alone. False: n.");
        run("""
            end 0 = true
            end 1 = false
            TAPE A.;ab;
            end 7 = false
            end -1 = false
            end MOST = false
            end LEAST = false
            end 6 = true
            fault 0 = 6
            end 5 = true
            fault 0 = NONE
            end 6 = false
            """);
        says("## Promise 4: fault `int fault(int sort)`: The FAULT of the TAPE as an OFFICE (0), a LAW (1), a PLAN (2). NONE: none. -2: no such sort.");
        run("""
            TAPE A.;ab
            fault 0 = NONE
            fault 1 = 0
            fault 2 = 1
            TAPE y:c
            fault 0 = 0
            fault 1 = NONE
            fault 2 = 0
            TAPE Aa
            fault 0 = 1
            fault 2 = NONE
            fault 3 = -2
            fault -1 = -2
            fault MOST = -2
            fault LEAST = -2
            told 3 = 2
            """);
        says("## Promise 5: text `int text(int sort)`: The TAPE (empty then) is the OFFICE"
            + " (in place of one ahead, with all that was of it but LAWS; no LAW holds then): how many DESKS; a LAW: its number; the PLAN: how many MOVES.");
        run("""
            TAPE A...;ab
            text 0 = 4
            told 3 = 0
            TAPE y:1
            text 1 = 0
            told 3 = 0
            TAPE Ab,Aa,Ab
            text 2 = 3
            told 3 = 0
            law 0 = true
            set A 0 9 = true
            set A 1 9 = true
            worth A a 9 = true
            wish a EMPTY = true
            move A b = 9
            image = 1
            OFFICE A.;ab
            SEATS A.
            clerk A 1 = 0
            clerk A 2 = 1
            seated A = 0
            done = 1
            told 2 = 1
            told 4 = NONE
            told 5 = 0
            told 6 = NONE
            undo = NONE
            back = NONE
            judge 0 0 = HIDDEN
            law 0 = true
            """);
        says("NONE: a FAULT, no such sort, there are four LAWS, no OFFICE for a PLAN.");
        run("""
            TAPE Aa
            text 0 = NONE
            text 1 = NONE
            text 2 = NONE
            text 3 = NONE
            text -1 = NONE
            told 3 = 2
            OFFICE A.;ab
            TAPE Aa
            text 2 = 1
            LAW y:1
            LAW y:1
            LAW y:1
            LAW y:1
            TAPE y:1
            text 1 = NONE
            """);
    }

    private static void promisesOfOffices() {
        says("## Promise 6: desk `int desk(int desk) throws NoSuchElementException`: Who sits at a DESK (NONE: EMPTY). NoSuchElementException: no such DESK.");
        run("""
            desk 0 = throws
            OFFICE .B;ab
            desk 0 = NONE
            desk 1 = 1
            desk 2 = throws
            desk -1 = throws
            desk MOST = throws
            desk LEAST = throws
            """);
        says("## Promise 7: door `int door(int one, int other)`: LENGTH of the DOOR between two. NONE: none, no such ones.");
        run("""
            door 0 1 = NONE
            OFFICE A..;ba3
            door 0 1 = 3
            door 1 0 = 3
            door 1 2 = NONE
            door 1 1 = NONE
            door 1 3 = NONE
            door -1 0 = NONE
            door MOST LEAST = NONE
            """);
        says("## Promise 8: quarrel `int quarrel(int one, int other)`: Whether two QUARREL (1, 0). NONE: no such ones, alike.");
        run("""
            quarrel A B = NONE
            OFFICE AC.D;ab;CA
            quarrel A C = 1
            quarrel C A = 1
            quarrel D A = 0
            quarrel A A = NONE
            quarrel A B = NONE
            quarrel B A = NONE
            quarrel A 12 = NONE
            quarrel -1 A = NONE
            quarrel LEAST MOST = NONE
            """);
        says("## Promise 9: set `boolean set(int clerk, int what, int v)`: RANK (what 0), PAPERS (1) of a CLERK. False: no such ones, out of bounds.");
        run("""
            set A 0 1 = false
            OFFICE A.;ab
            set A 0 3 = true
            set A 1 4 = true
            clerk A 1 = 3
            clerk A 2 = 4
            set A 2 1 = false
            set A -1 1 = false
            set B 0 1 = false
            set 12 0 1 = false
            set -1 0 1 = false
            set A 0 MOST = false
            set A 1 LEAST = false
            """);
        says("## Promise 10: clerk `int clerk(int clerk, int what)`: Of a CLERK: 0 its DESK, 1 RANK, 2 PAPERS, 3 how many sit BESIDE it,"
            + " 4 with how many of these it QUARRELS. NONE: no such ones.");
        run("""
            clerk A 0 = NONE
            OFFICE DAB.C;ab,bc,bd,ce;AB,AC
            clerk A 0 = b
            clerk A 1 = 0
            clerk A 2 = 1
            clerk A 3 = 2
            clerk A 4 = 1
            clerk C 3 = 1
            clerk C 4 = 0
            clerk A 5 = NONE
            clerk A -1 = NONE
            clerk E 0 = NONE
            clerk -1 0 = NONE
            clerk 12 0 = NONE
            """);
        says("## Promise 11: law `boolean law(int law)`: The LAW that holds (NONE: none). False: no such one, no OFFICE.");
        run("""
            LAW y:0
            law 0 = false
            law NONE = false
            OFFICE A.;ab
            law 0 = true
            law 1 = false
            law -2 = false
            law MOST = false
            told 6 = 0
            law NONE = true
            told 6 = NONE
            """);
        says("## Promise 12: let `int let(int clerk, int desk)`: Whether a MOVE is LET now (1, 0). NONE: it can't be made, no such ones.");
        run("""
            let A b = NONE
            LAW y:1-t
            OFFICE A..;ab,ac
            let A b = 1
            law 0 = true
            let A b = 0
            let A c = 0
            let A a = NONE
            let A d = NONE
            let A -1 = NONE
            let B b = NONE
            let 12 b = NONE
            let -1 b = NONE
            told 5 = 0
            """);
        says("## Promise 13: move `int move(int clerk, int desk)`: A MOVE: its COST. NONE: it can't be made, is not LET, no such ones.");
        run("""
            move A b = NONE
            LAW y:2-t
            OFFICE A..;ab5,ac
            law 0 = true
            move A c = NONE
            move A b = 5
            SEATS .A.
            move A c = NONE
            move A d = NONE
            move B a = NONE
            move -1 a = NONE
            move A -1 = NONE
            move A a = 5
            told 5 = 2
            """);
        says("## Promise 14: undo `int undo()`: The latest MOVE is UNDONE: how many are in the DIARY. NONE: none.");
        run("""
            undo = NONE
            LAW y:0
            OFFICE A.B;ab,bc
            undo = NONE
            move A b = 1
            undo = 0
            SEATS A.B
            undo = NONE
            move B b = 1
            move B c = 1
            move A b = 1
            law 0 = true
            undo = 2
            SEATS A.B
            undo = 1
            SEATS AB.
            """);
        says("## Promise 15: diary `int diary(int i)`: The i-th MOVE in the DIARY: 16 times the CLERK and the DESK it went to. NONE: no such one.");
        run("""
            diary 0 = NONE
            OFFICE .L.;ab,bc
            diary 0 = NONE
            move L c = 1
            diary 0 = 178
            diary 1 = NONE
            diary -1 = NONE
            move L b = 1
            diary 0 = Lc
            diary 1 = Lb
            diary MOST = NONE
            diary LEAST = NONE
            """);
        says("## Promise 16: judge `int judge(int rules, int what)`: The PLAN JUDGED (rules 0 .. 7): 0 the first wrong MOVE (NONE: none),"
            + " 1 why (0: nothing), 2 COST up to there. HIDDEN: no PLAN, no such ones.");
        run("""
            judge 0 0 = HIDDEN
            OFFICE A.;ab4
            judge 0 0 = HIDDEN
            PLAN Ab,Aa,Aa
            judge 0 0 = 2
            judge 0 1 = 2
            judge 0 2 = 8
            judge 7 0 = 1
            judge 7 1 = 5
            judge 7 2 = 4
            PLAN Ab
            judge 7 0 = NONE
            judge 7 1 = 0
            judge 7 2 = 4
            judge 8 0 = HIDDEN
            judge -1 0 = HIDDEN
            judge 0 3 = HIDDEN
            judge 0 -1 = HIDDEN
            SEATS A.
            """);
    }

    private static void promisesOfWays() {
        says("## Promise 17: wish `boolean wish(int desk, int clerk)`: A WISH for a DESK (clerk NONE: nothing; 12: EMPTY)."
            + " False: no such ones, that CLERK is wished elsewhere.");
        run("""
            wish 0 NONE = false
            OFFICE AB..;ab
            wish a B = true
            wish a B = true
            wish b B = false
            wish a A = true
            wish b B = true
            wish c 12 = true
            wish d 12 = true
            wish b NONE = true
            wish c B = true
            wish a C = false
            wish a 11 = false
            wish a 13 = false
            wish a -2 = false
            wish 4 A = false
            wish -1 NONE = false
            """);
        says("## Promise 18: done `int done()`: Whether it is DONE (1, 0). NONE: no OFFICE.");
        run("""
            done = NONE
            OFFICE A.;ab
            done = 1
            WISHES .A
            done = 0
            WISHES A.
            done = 1
            WISHES _A
            done = 0
            move A b = 1
            done = 1
            """);
        says("## Promise 19: fewest `int fewest(int i)`: FEWEST: how many (i NONE), the i-th MOVE as in the DIARY."
            + " NONE: none, no such MOVE. HIDDEN: more than 8 DESKS, no OFFICE.");
        run("""
            fewest NONE = HIDDEN
            fewest 0 = HIDDEN
            OFFICE AB..;ab,bc,cd
            fewest NONE = 0
            fewest 0 = NONE
            WISHES ___B
            fewest NONE = 2
            fewest 0 = Bc
            fewest 1 = Bd
            fewest 2 = NONE
            fewest -2 = NONE
            fewest MOST = NONE
            fewest LEAST = NONE
            WISHES ___A
            fewest NONE = NONE
            fewest 0 = NONE
            OFFICE A........;ab
            fewest NONE = HIDDEN
            fewest 0 = HIDDEN
            """);
        says("## Promise 20: cheapest `int cheapest()`: CHEAPEST. NONE: none. HIDDEN likewise.");
        run("""
            cheapest = HIDDEN
            OFFICE A..;ab4
            cheapest = 0
            WISHES _A_
            cheapest = 4
            WISHES __A
            cheapest = NONE
            OFFICE A........;ab
            cheapest = HIDDEN
            """);
        says("## Promise 21: all `int all(int what)`: ALL (0), FAR (1). HIDDEN likewise, no such what.");
        run("""
            all 0 = HIDDEN
            OFFICE A..;ab,bc
            all 0 = 3
            all 1 = 2
            all 2 = HIDDEN
            all -1 = HIDDEN
            OFFICE A........;ab
            all 0 = HIDDEN
            """);
        says("## Promise 22: count `int count(int k)`: COUNT. HIDDEN likewise, out of bounds.");
        run("""
            count 0 = HIDDEN
            OFFICE A...;ab,ac,cd
            count 0 = 1
            count 1 = 2
            count 2 = 1
            count 3 = 0
            count 60 = 0
            count 61 = HIDDEN
            count -1 = HIDDEN
            OFFICE A........;ab
            count 0 = HIDDEN
            """);
        says("## Promise 23: ill `int ill(int clerk)`: ILL. NONE: none. HIDDEN likewise, no such CLERK.");
        run("""
            ill A = HIDDEN
            OFFICE AC.;ab,bc2
            WISHES __A
            ill A = 0
            ill C = NONE
            WISHES _A_
            ill C = 0
            WISHES __C
            ill A = 2
            ill C = 0
            ill B = HIDDEN
            ill -1 = HIDDEN
            ill 12 = HIDDEN
            OFFICE A........;ab
            ill A = HIDDEN
            """);
        says("## Promise 24: holds `int holds()`: HOLDS. NONE: some can't be. HIDDEN likewise.");
        run("""
            holds = HIDDEN
            OFFICE AC.;ab,bc2
            holds = 0
            WISHES __C
            holds = 2
            WISHES __A
            holds = NONE
            OFFICE A........;ab
            holds = HIDDEN
            """);
        says("## Promise 25: sort `int sort()`: SORT. NONE: no OFFICE, more than one EMPTY.");
        run("""
            sort = NONE
            OFFICE A..;ab,bc
            sort = NONE
            OFFICE AB.;ab,bc
            sort = 1
            """);
        says("## Promise 26: can `int can()`: CAN (1, 0). NONE: no SORT, WISHES that are no such seating. HIDDEN: not told.");
        run("""
            can = NONE
            OFFICE A..;ab,bc
            WISHES ..A
            can = NONE
            OFFICE AB.;ab,bc
            WISHES .A_
            can = NONE
            WISHES .AB
            can = 1
            WISHES .BA
            can = 0
            OFFICE ABCDEFGH.;ab
            WISHES ABCDEFGH.
            can = HIDDEN
            """);
    }

    private static void promisesOfWorths() {
        says("## Promise 27: worth `boolean worth(int clerk, int desk, int v)`: WORTH. False: no such ones, out of bounds.");
        run("""
            worth A a 1 = false
            OFFICE A.;ab
            worth A a 1 = true
            worth A b 99 = true
            worth A c 1 = false
            worth A -1 1 = false
            worth B a 1 = false
            worth 12 a 1 = false
            worth -1 a 1 = false
            worth A a 100 = false
            worth A a -1 = false
            seated A = 1
            """);
        says("## Promise 28: seated `int seated(int clerk)`: SEATED: one's own; all together (clerk NONE). NONE: no such one, no OFFICE.");
        run("""
            seated NONE = NONE
            seated A = NONE
            OFFICE AC.;ab
            worth A a 3 = true
            worth C b 4 = true
            seated A = 3
            seated C = 4
            seated NONE = 7
            seated B = NONE
            seated -2 = NONE
            seated 12 = NONE
            """);
        says("## Promise 29: best `int best(int clerk)`: BEST: the DESK of a CLERK; the sum (clerk NONE). NONE: no such one, no OFFICE.");
        run("""
            best NONE = NONE
            best A = NONE
            OFFICE AC.;ab
            worth A c 3 = true
            worth C a 4 = true
            best NONE = 7
            best A = c
            best C = a
            best B = NONE
            best -2 = NONE
            best 12 = NONE
            """);
        says("## Promise 30: gains `int gains(int clerk, int what)`: GAINS: how much (0), the DESK (1). NONE: no such ones.");
        run("""
            gains A 0 = NONE
            OFFICE AC.;ab
            worth A c 6 = true
            worth A a 5 = true
            worth C c 8 = true
            gains A 0 = 1
            gains A 1 = c
            gains C 0 = 0
            gains C 1 = c
            gains A 2 = NONE
            gains A -1 = NONE
            gains B 0 = NONE
            gains -1 0 = NONE
            gains 12 0 = NONE
            """);
        says("## Promise 31: exchange `int exchange(int clerk)`: EXCHANGES: the DESK a CLERK gets. NONE: no such one.");
        run("""
            exchange A = NONE
            OFFICE AC.;ab
            exchange A = a
            exchange C = b
            worth A b 1 = true
            worth C a 1 = true
            exchange A = b
            exchange C = a
            exchange B = NONE
            exchange -1 = NONE
            exchange 12 = NONE
            SEATS AC.
            """);
        says("## Promise 32: agree `int agree(int i)`: AGREE: how many pairs (i NONE), the i-th (16 times the lower CLERK and the other one, rising)."
            + " NONE: no such one, no OFFICE.");
        run("""
            agree NONE = NONE
            agree 0 = NONE
            OFFICE CBA.;ab
            worth A a 1 = true
            worth A b 1 = true
            worth B c 1 = true
            worth B a 1 = true
            worth C b 1 = true
            worth C c 1 = true
            agree NONE = 3
            agree 0 = AB
            agree 1 = AC
            agree 2 = 18
            agree 3 = NONE
            agree -2 = NONE
            agree LEAST = NONE
            agree MOST = NONE
            """);
        says("## Promise 33: vote `int vote(int one, int other)`: VOTE. HIDDEN: no such ones, alike, both EMPTY.");
        run("""
            vote 0 1 = HIDDEN
            OFFICE ABC..;ab,bc;AB,AC
            vote b c = 0
            vote b d = 1
            vote d b = 1
            vote a d = 1
            vote a a = HIDDEN
            vote d e = HIDDEN
            vote d d = HIDDEN
            vote a 5 = HIDDEN
            vote -1 a = HIDDEN
            vote MOST LEAST = HIDDEN
            SEATS ABC..
            """);
        says("## Promise 34: image `int image()`: An IMAGE (instead of the one ahead): MOVES in the DIARY. NONE: no OFFICE.");
        run("""
            image = NONE
            OFFICE A.;ab
            image = 0
            move A b = 1
            image = 1
            undo = 0
            back = 1
            SEATS .A
            """);
        says("## Promise 35: back `int back()`: BACK: MOVES in the DIARY. NONE: no IMAGE of this OFFICE.");
        run("""
            back = NONE
            OFFICE A.;ab
            back = NONE
            image = 0
            move A b = 1
            back = 0
            SEATS A.
            OFFICE A.;ab
            back = NONE
            """);
        says("## Promise 36: told `int told(int what)`: 0 DESKS, 1 CLERKS (bits), 2 LAWS, 3 bytes of the TAPE, 4 MOVES of the PLAN (NONE without),"
            + " 5 MOVES in the DIARY, 6 the LAW that holds (NONE). HIDDEN for others.");
        run("""
            told 7 = HIDDEN
            told -1 = HIDDEN
            told MOST = HIDDEN
            told LEAST = HIDDEN
            OFFICE A.L;ab
            LAW y:1
            LAW y:2
            PLAN Ab,Aa
            law 1 = true
            move A b = 1
            TAPE A
            told 0 = 3
            told 1 = 2049
            told 2 = 2
            told 3 = 1
            told 4 = 2
            told 5 = 1
            told 6 = 1
            """);
        says("## Not promised");
        says("How the state is held inside the object is free, as are the speed of each call, the text of toString and the behaviour of equals and hashCode."
            + " Use of one object from several threads at once is not promised to be safe."
            + " Nothing is promised beyond the answers and state changes described above, and nothing about an object after its 512th call.");
    }

    private static void readDocument() throws Exception {
        Path path = Path.of(System.getProperty("deskmoves.shared", "../shared"), "DOC.md");
        document = Files.readString(path, StandardCharsets.UTF_8).replaceAll("\\s+", " ").strip();
        for (Method m : DeskMoves.class.getDeclaredMethods()) {
            if (java.lang.reflect.Modifier.isPublic(m.getModifiers())) {
                FACE.put(m.getName(), m);
            }
        }
    }

    public static void main(String[] args) throws Exception {
        readDocument();
        whatItIs();
        face();
        officeTerms();
        lawTerms();
        planTerms();
        moveTerms();
        planJudgement();
        wayTerms();
        illTerms();
        turnTerms();
        worthTerms();
        exchangeTerms();
        promisesOfTexts();
        promisesOfOffices();
        promisesOfWays();
        promisesOfWorths();
        sentence = "the last line";
        due("signs of the document that no test has", document.length() - at, 0);
        System.out.println(sentences + " sentences, " + asked + " answers asked, " + wrong + " are not as due");
        if (wrong != 0) {
            System.exit(1);
        }
    }
}
