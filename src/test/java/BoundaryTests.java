import java.nio.charset.StandardCharsets;
import java.nio.file.Files;
import java.nio.file.Path;
import java.util.ArrayList;
import java.util.IdentityHashMap;
import java.util.List;
import java.util.Map;
import java.util.NoSuchElementException;
import java.util.regex.Matcher;
import java.util.regex.Pattern;

/**
 * Each sentence of the document that names a boundary: the last value that is taken, the first that
 * is refused on either side, and that the calls behind a refused one answer as if it had not been made.
 */
public final class BoundaryTests {
    private static final int NONE = -1;
    private static final int HIDDEN = -1000000;
    private static final int THROWN = -7777777;
    private static final int LEAST = Integer.MIN_VALUE;
    private static final int MOST = Integer.MAX_VALUE;

    /** What is asked of an object; a boolean counts 1 or 0. */
    interface Call {
        long ask(DeskMoves x);
    }

    interface NumberCall {
        long ask(DeskMoves x, int v);
    }

    interface Make {
        DeskMoves make();
    }

    private static int promise;
    private static String sentence = "";
    private static int wrong;
    private static int asked;
    private static int sentences;
    private static String document = "";
    /** The promise, a colon, and the words. */
    private static final List<String> QUOTED = new ArrayList<>();

    private static void due(String what, long got, long want) {
        asked++;
        if (got != want) {
            wrong++;
            System.out.println("promise " + promise + ", '" + sentence + "': " + what + " answered " + got + ", due is " + want);
        }
    }

    private static void due(String what, boolean got, boolean want) {
        due(what, got ? 1 : 0, want ? 1 : 0);
    }

    /** The words must stand in the document, so that no test keeps a sentence that is not there. */
    private static void says(String words) {
        sentence = words;
        sentences++;
        QUOTED.add(promise + ":" + words);
        if (!document.isEmpty() && !document.contains(words)) {
            wrong++;
            System.out.println("promise " + promise + ": the document does not say '" + words + "'");
        }
    }

    // ---- making objects

    private static void feed(DeskMoves x, String s) {
        for (int from = 0; from < s.length(); from += 20) {
            int[] five = new int[5];
            for (int i = 0; i < 20 && from + i < s.length(); i++) {
                five[i / 4] |= (s.charAt(from + i) & 255) << 24 - i % 4 * 8;
            }
            x.feed(five[0], five[1], five[2], five[3], five[4]);
        }
    }

    private static int text(DeskMoves x, int sort, String s) {
        x.end(0);
        feed(x, s);
        return x.text(sort);
    }

    private static DeskMoves office(String s) {
        DeskMoves x = new DeskMoves();
        if (text(x, 0, s) < 2) {
            wrong++;
            System.out.println("promise " + promise + ": no office: " + s);
        }
        return x;
    }

    private static DeskMoves ruled(String s, String law) {
        DeskMoves x = office(s);
        if (text(x, 1, law) != 0 || !x.law(0)) {
            wrong++;
            System.out.println("promise " + promise + ": no law: " + law);
        }
        return x;
    }

    /** Four desks, of which all that can be told is told: each refused call would be seen to change it. */
    private static final Make RICH = () -> {
        DeskMoves x = office("AB.C;ab,bc2,cd,da3;AB");
        x.set(0, 0, 4);
        x.set(1, 1, 3);
        x.set(2, 0, 7);
        x.wish(0, 1);
        x.wish(3, 12);
        x.worth(0, 0, 5);
        x.worth(0, 1, 9);
        x.worth(1, 0, 8);
        x.worth(1, 3, 4);
        x.worth(2, 2, 7);
        text(x, 1, "y:2-q");
        text(x, 1, "y:9-l*p");
        x.move(1, 2);
        x.image();
        x.move(0, 1);
        x.move(2, 0);
        x.law(1);
        text(x, 2, "Bd,Ac,Ab");
        feed(x, "y:1=1?3");
        return x;
    };

    /** The same with nine desks, so that all that is searched is not told. */
    private static final Make NINE = () -> {
        DeskMoves x = office("ABCDEFGH.;ab,bc2,cd,de,ef,fg,gh,hi,ia;AB,CD");
        x.wish(0, 1);
        x.worth(0, 1, 9);
        x.move(7, 8);
        x.image();
        x.move(6, 7);
        text(x, 2, "Fg,Ef");
        return x;
    };

    private static final Make EIGHT = () -> {
        DeskMoves x = office("ABCDEFG.;ab,bc2,cd,de,ef,fg,gh,ha");
        x.wish(0, 1);
        x.move(6, 7);
        return x;
    };

    private static final Make TWO = () -> office("A.;ab");
    private static final Make TWELVE = () -> office("ABCDEFGHIJK.;ab,bc,cd,de,ef,fg,gh,hi,ij,jk,kl,la;AK");
    private static final Make FRESH = DeskMoves::new;

    // ---- what an object answers to all that can be asked

    private static int desk(DeskMoves x, int desk) {
        try {
            return x.desk(desk);
        } catch (NoSuchElementException e) {
            return THROWN;
        }
    }

    private static final int PARTS = 8;

    /** Several parts, each for an object of its own, as some calls change it and 512 are the most. */
    private static List<Long> portrait(DeskMoves x, int part) {
        List<Long> seen = new ArrayList<>();
        switch (part) {
            case 0: lookAtSeats(x, seen); break;
            case 1: lookAtMoves(x, seen); break;
            case 2: lookAtSearches(x, seen); break;
            case 3: lookAtWorths(x, seen); break;
            case 4: lookAtPast(x, seen); break;
            case 5: lookAtTape(x, seen); break;
            case 6: lookAtWishes(x, seen); break;
            default: lookAtTexts(x, seen); break;
        }
        return seen;
    }

    private static void add(List<Long> seen, long answer) {
        seen.add(answer);
    }

    private static void lookAtSeats(DeskMoves x, List<Long> seen) {
        int desks = x.told(0);
        for (int what = 0; what < 7; what++) {
            add(seen, x.told(what));
        }
        for (int d = 0; d <= desks; d++) {
            add(seen, desk(x, d));
            for (int other = 0; other < d; other++) {
                add(seen, x.door(d, other));
                add(seen, x.quarrel(d, other));
            }
        }
        for (int c = 0; c < 12; c++) {
            for (int what = 0; what < 5; what++) {
                add(seen, x.clerk(c, what));
            }
        }
        int moves = x.told(5);
        for (int i = 0; i <= moves; i++) {
            add(seen, x.diary(i));
        }
    }

    private static void lookAtMoves(DeskMoves x, List<Long> seen) {
        int desks = x.told(0);
        for (int c = 0; c < desks; c++) {
            for (int d = 0; d < desks; d++) {
                add(seen, x.let(c, d));
            }
        }
        for (int rules = 0; rules < 8; rules++) {
            for (int what = 0; what < 3; what++) {
                add(seen, x.judge(rules, what));
            }
        }
        for (int law = NONE; law < 4; law++) {
            add(seen, x.law(law) ? 1 : 0);
            for (int c = 0; c < desks && desks < 6; c++) {
                for (int d = 0; d < desks; d++) {
                    add(seen, x.let(c, d));
                }
            }
        }
    }

    private static void lookAtSearches(DeskMoves x, List<Long> seen) {
        add(seen, x.done());
        for (int i = NONE; i < 12; i++) {
            add(seen, x.fewest(i));
        }
        add(seen, x.cheapest());
        add(seen, x.all(0));
        add(seen, x.all(1));
        for (int k = 0; k <= 60; k++) {
            add(seen, x.count(k));
        }
        for (int c = 0; c < 12; c++) {
            add(seen, x.ill(c));
        }
        add(seen, x.holds());
        add(seen, x.sort());
        add(seen, x.can());
    }

    private static void lookAtWorths(DeskMoves x, List<Long> seen) {
        int desks = x.told(0);
        // Of large offices the first and the last clerks are enough, as each asks for long sums.
        int step = desks > 6 ? 10 : 1;
        for (int c = NONE; c < 12; c++) {
            add(seen, x.seated(c));
            add(seen, x.best(c));
            add(seen, x.exchange(c));
            add(seen, x.agree(c));
        }
        for (int c = 0; c < 12; c += step) {
            add(seen, x.gains(c, 0));
            add(seen, x.gains(c, 1));
        }
        for (int one = 0; one < desks; one++) {
            for (int other = 0; other < one; other++) {
                add(seen, x.vote(one, other));
            }
        }
        // Worths are seen as the best sum falls when they are taken away.
        for (int c = 0; c < desks; c += step) {
            for (int d = 0; d < desks; d++) {
                if (x.worth(c, d, 0)) {
                    add(seen, x.best(NONE));
                }
            }
        }
    }

    private static void lookAtPast(DeskMoves x, List<Long> seen) {
        int desks = x.told(0);
        for (int round = 0; round < 2; round++) {
            for (int i = 0; i <= 100; i++) {
                int left = x.undo();
                add(seen, left);
                if (left == NONE || i < 8) {
                    for (int d = 0; d < desks; d++) {
                        add(seen, desk(x, d));
                    }
                }
                if (left == NONE) {
                    break;
                }
            }
            add(seen, x.back());
            for (int i = 0; i < 8; i++) {
                add(seen, x.diary(i));
            }
        }
    }

    private static void lookAtTape(DeskMoves x, List<Long> seen) {
        int length = x.told(3);
        for (int n = length; n >= 0; n -= Math.max(1, length / 40)) {
            add(seen, x.end(n) ? 1 : 0);
            for (int sort = 0; sort < 3; sort++) {
                add(seen, x.fault(sort));
            }
        }
    }

    private static void lookAtWishes(DeskMoves x, List<Long> seen) {
        for (int d = 0; d < x.told(0); d++) {
            add(seen, x.done());
            add(seen, x.fewest(NONE));
            add(seen, x.can());
            for (int c = 0; c < 12; c++) {
                add(seen, x.wish(x.told(0) - 1, c) ? 1 : 0);
            }
            add(seen, x.wish(d, NONE) ? 1 : 0);
        }
        add(seen, x.done());
    }

    private static void lookAtTexts(DeskMoves x, List<Long> seen) {
        for (int sort = 2; sort >= 0; sort--) {
            add(seen, x.text(sort));
            add(seen, x.told(3));
        }
        add(seen, x.law(x.told(2) - 1) ? 1 : 0);
        for (int c = 0; c < x.told(0); c++) {
            for (int d = 0; d < x.told(0); d++) {
                add(seen, x.let(c, d));
            }
        }
        for (int d = 0; d < x.told(0); d++) {
            add(seen, desk(x, d));
        }
        for (int rules = 0; rules < 8; rules++) {
            add(seen, x.judge(rules, 0));
            add(seen, x.judge(rules, 2));
        }
    }

    private static final Map<Make, List<List<Long>>> UNTOUCHED = new IdentityHashMap<>();

    private static List<List<Long>> untouched(Make make) {
        return UNTOUCHED.computeIfAbsent(make, m -> {
            List<List<Long>> parts = new ArrayList<>();
            for (int part = 0; part < PARTS; part++) {
                parts.add(portrait(m.make(), part));
            }
            return parts;
        });
    }

    /** The call answers so, and nothing is changed by it, be it refused or only asking. */
    private static void leaves(String what, Make make, Call call, long answer) {
        for (int part = 0; part < PARTS; part++) {
            DeskMoves x = make.make();
            long got = call.ask(x);
            if (part == 0) {
                due(what, got, answer);
            }
            // A search ahead must not hide what the call would change.
            due(what + " changes nothing of part " + part, portrait(x, part).equals(untouched(make).get(part)), true);
            DeskMoves y = make.make();
            y.all(0);
            y.cheapest();
            y.best(NONE);
            y.gains(0, 0);
            call.ask(y);
            due(what + " changes nothing that was asked for, part " + part,
                portrait(y, part).equals(untouched(make).get(part)), true);
        }
    }

    /** All on either side of the bounds is refused: the next ones and the furthest. */
    private static void outside(String what, Make make, NumberCall call, int low, int high, long answer) {
        int[] all = {low - 1, high + 1, low - 32, high + 32, LEAST, MOST};
        for (int v : all) {
            leaves(what + " with " + v, make, x -> call.ask(x, v), answer);
        }
    }

    /** The call answers so on a new object of that make. */
    private static void answers(String what, Make make, Call call, long want) {
        due(what, call.ask(make.make()), want);
    }

    private static long one(boolean b) {
        return b ? 1 : 0;
    }

    private static String seats(DeskMoves x) {
        StringBuilder s = new StringBuilder();
        for (int d = 0; d < x.told(0); d++) {
            s.append(x.desk(d) == NONE ? '.' : (char) ('A' + x.desk(d)));
        }
        return s.toString();
    }

    private static void sits(DeskMoves x, String want) {
        due("they sit " + seats(x) + " and should " + want, seats(x).equals(want), true);
    }

    private static void wishes(DeskMoves x, String s) {
        for (int d = 0; d < s.length(); d++) {
            x.wish(d, NONE);
        }
        for (int d = 0; d < s.length(); d++) {
            char c = s.charAt(d);
            due("wish", x.wish(d, c == ' ' ? NONE : c == '.' ? 12 : c - 'A'), true);
        }
    }

    // ---- the Terms

    private static void officeBounds() {
        promise = 5;
        says("for each DESK (2 .. 12; letters a .. l in this order)");
        refusedText(0, "A;ab");
        takenText(0, "A.;ab", 2);
        takenText(0, "ABCDEFGHIJK.;al", 12);
        refusedText(0, "ABCDEFGHIJK..;al");
        refusedText(0, "ABCDEFGHIJK.L;al");
        says("a CLERK, a letter A .. L, each once at most, or a dot (EMPTY)");
        takenText(0, "L.;ab", 2);
        refusedText(0, "M.;ab");
        refusedText(0, "@.;ab");
        refusedText(0, "a.;ab");
        refusedText(0, "A.A;ab");
        answers("L is clerk 11", () -> office("L.;ab"), x -> x.desk(0), 11);
        answers("A is clerk 0", TWO, x -> x.desk(0), 0);
        says("DOORS: pairs of DESKS with , between, one at least");
        refusedText(0, "A.");
        refusedText(0, "A.;");
        refusedText(0, "A.;;AB");
        refusedText(0, "A.;ab,");
        takenText(0, "AB.;ab,bc", 3);
        refusedText(0, "AB.;abbc");
        says("two letters, unlike, each pair once at most (either way), perhaps LENGTH (1 .. 9; 1 without)");
        refusedText(0, "A.;aa");
        refusedText(0, "A.;a");
        refusedText(0, "A.;ab,ab");
        refusedText(0, "A.;ab,ba");
        refusedText(0, "A.;ac");
        takenText(0, "A..;ac", 3);
        refusedText(0, "A.;ab0");
        refusedText(0, "A.;ab10");
        refusedText(0, "A.;ab:");
        answers("1 without", TWO, x -> x.door(0, 1), 1);
        for (int length = 1; length <= 9; length++) {
            String told = "A.;ab" + length;
            answers("length " + length, () -> office(told), x -> x.door(1, 0), length);
        }
        says("QUARRELS: pairs of CLERKS who sit there, likewise (without LENGTH)");
        takenText(0, "AB.;ab;AB", 3);
        refusedText(0, "AB.;ab;");
        refusedText(0, "AB.;ab;A");
        refusedText(0, "AB.;ab;AA");
        refusedText(0, "AB.;ab;AC");
        refusedText(0, "AB.;ab;CA");
        refusedText(0, "AB.;ab;AB1");
        refusedText(0, "AB.;ab;AB,BA");
        refusedText(0, "AB.;ab;AB,");
        refusedText(0, "AB.;ab;AB;");
        says("One EMPTY DESK and one CLERK at least");
        refusedText(0, "AB;ab");
        refusedText(0, "..;ab");
        refusedText(0, "ABCDEFGHIJKL;ab");
        refusedText(0, "............;ab");
        takenText(0, "...........A;ab", 12);
        longestOffices();
    }

    /** A tape can hold an office of eight desks with every door and fourteen lengths, and 49 doors of twelve. */
    private static void longestOffices() {
        StringBuilder all = new StringBuilder("ABCDEFGHIJK.;");
        int doors = 0;
        for (int one = 0; one < 12; one++) {
            for (int other = one + 1; other < 12 && doors < 49; other++) {
                all.append(doors == 0 ? "" : ",").append((char) ('a' + one)).append((char) ('a' + other));
                doors++;
            }
        }
        all.append('7');
        due("its bytes", all.length(), 160);
        DeskMoves x = office(all.toString());
        int found = 0;
        for (int one = 0; one < 12; one++) {
            for (int other = one + 1; other < 12; other++) {
                found += x.door(one, other) != NONE ? 1 : 0;
            }
        }
        due("doors of an office of 160 bytes", found, 49);
        due("the last one's length", x.door(5, 9), 7);
        due("the one behind", x.door(5, 10), NONE);
    }

    private static void takenText(int sort, String s, int want) {
        DeskMoves x = RICH.make();
        due("text(" + sort + ") of '" + s + "'", text(x, sort, s), want);
        due("the tape is empty then", x.told(3), 0);
    }

    /** A text that is not taken stays on the tape, and all else as it was. */
    private static void refusedText(int sort, String s) {
        Make make = () -> {
            DeskMoves x = RICH.make();
            x.end(0);
            feed(x, s);
            return x;
        };
        leaves("text(" + sort + ") of '" + s + "'", make, x -> x.text(sort), NONE);
    }

    private static void lawBounds() {
        promise = 5;
        says("CLAUSES with ; between, one at least: y, : , perhaps CONDITION ?, then SUM");
        refusedText(1, "");
        refusedText(1, "y");
        refusedText(1, "y:");
        refusedText(1, "y:1=1?");
        refusedText(1, "y:1;");
        takenText(1, "y:1", 2);
        takenText(1, "y:1;y:1", 2);
        says("a number (1 to 4 digits), a letter (c f t l r p b q), [ SUM ]");
        takenText(1, "y:9999", 2);
        refusedText(1, "y:10000");
        refusedText(1, "y:00001");
        refusedText(1, "y:[]");
        says("At most six of ( [ ! within one another.");
        takenText(1, "y:[[[[[[1]]]]]]", 2);
        refusedText(1, "y:[[[[[[[1]]]]]]]");
        takenText(1, "y:((((((1=1))))))?1", 2);
        refusedText(1, "y:(((((((1=1)))))))?1");
        takenText(1, "y:!!!!!!1=1?1", 2);
        refusedText(1, "y:!!!!!!!1=1?1");
        takenText(1, "y:(!(!([1]=1)))?1", 2);
        refusedText(1, "y:(!(!([[1]]=1)))?1");
        says("(or has none), 0 without");
        worthIs("y:c=1?5;y:c=1?6", "not let", 0);
        worthIs("y:c=1?5;y:c=0?1", "let by the second", 1);
        worthIs("y:c=0?0;y:1", "not let by the first", 0);
        worthIs("y:c=0?1;y:0", "let by the first", 1);
        worthIs("y:1;y:0", "let by the first without a condition", 1);
        String longest = "y:10" + "+1".repeat(75) + "=85?10";
        due("its bytes", longest.length(), 160);
        worthIs(longest, "read to its end", 1);
        worthIs("y:10" + "+1".repeat(75) + "=84?10", "read to its end", 0);
    }

    private static void worthIs(String law, String what, int want) {
        answers(law + " is " + what, () -> ruled("A.;ab", law), x -> x.let(0, 1), want);
    }

    private static void isTrue(String condition, boolean want) {
        worthIs("y:" + condition + "?1", want ? "so" : "not so", want ? 1 : 0);
    }

    private static void numberBounds() {
        promise = 12;
        says("Behind each sign numbers are within -1,000,000 .. 1,000,000");
        String most = "1000*1000";
        isTrue("999*1000+999+1=" + most, true);
        isTrue("999*1000+998+1=" + most, false);
        isTrue(most + "+0=" + most, true);
        isTrue(most + "+1=" + most, true);
        isTrue(most + "+9999=" + most, true);
        isTrue(most + "-1=999*1000+999", true);
        isTrue("1000*1001=" + most, true);
        isTrue("1000*999<" + most, true);
        isTrue("9999*9999=" + most, true);
        isTrue(most + "*[" + most + "]=" + most, true);
        isTrue(most + "+5-5=999*1000+995", true);
        isTrue("[0-1]*" + most + "=0-" + most, true);
        isTrue("0-" + most + "<0-999*1000-999", true);
        isTrue("0-" + most + "-1=0-" + most, true);
        isTrue("0-" + most + "-1+1=0-999*1000-999", true);
        isTrue("0-999*1000-999-1=0-" + most, true);
        isTrue("[0-1001]*1000=0-" + most, true);
        isTrue("[0-" + most + "]*[0-" + most + "]=" + most, true);
        isTrue("[0-9999]*9999*9999=0-" + most, true);
        isTrue("9999*9999/9999=100", true);
        isTrue("[" + most + "]/1=" + most, true);
        isTrue("[0-" + most + "]/[0-1]=" + most, true);
        says("/ cuts towards 0, by 0 gives 0");
        isTrue("7/2=3", true);
        isTrue("[0-7]/2=0-3", true);
        isTrue("7/[0-2]=0-3", true);
        isTrue("[0-7]/[0-2]=3", true);
        isTrue("1/2=0", true);
        isTrue("[0-1]/2=0", true);
        isTrue("1/1=1", true);
        isTrue("5/0=0", true);
        isTrue("0/0=0", true);
        isTrue("[0-5]/0=0", true);
        isTrue("5/[1-1]=0", true);
        isTrue("5/0+1=1", true);
        isTrue("c/c=0", true);
        says("one of = < >");
        isTrue("1<2", true);
        isTrue("2<2", false);
        isTrue("3<2", false);
        isTrue("1>2", false);
        isTrue("2>2", false);
        isTrue("3>2", true);
        isTrue("2=2", true);
        isTrue("1=2", false);
        isTrue("3=2", false);
    }

    private static void letterBounds() {
        promise = 12;
        says("c the CLERK, f, t DESKS from, to, l LENGTH, r RANK, p PAPERS, b how many others sit BESIDE it there");
        String far = "ABCDEFGHIJ.L;ab,kl9;AB";
        letterIs(far, 11, 10, "c=11&f=11&t=10&l=9&r=0&p=1&b=0&q=0");
        letterIs("A.;ab", 0, 1, "c=0&f=0&t=1&l=1&r=0&p=1&b=0&q=0");
        // Eleven doors of the empty desk: ten others and itself.
        String star = "ABCDEFGHIJK.;la,lb,lc,ld,le,lf,lg,lh,li,lj,lk;AB,AC,AD,AE,AF,AG,AH,AI,AJ,AK,BC";
        letterIs(star, 0, 11, "b=10&q=10");
        letterIs(star, 1, 11, "b=10&q=2");
        letterIs(star, 3, 11, "b=10&q=1");
        says("with how many of these it QUARRELS");
        letterIs("ABC.;ab,bd;AB", 1, 3, "b=0&q=0");
        letterIs("ABC.;ab,bd,dc;AB", 1, 3, "b=1&q=0");
        letterIs("ABC.;ab,bd,dc;BC", 1, 3, "b=1&q=1");
    }

    private static void letterIs(String office, int clerk, int desk, String condition) {
        answers(condition, () -> ruled(office, "y:" + condition + "?1"), x -> x.let(clerk, desk), 1);
    }

    private static void blanks() {
        promise = 4;
        says("In all TEXTS blanks (32) may stand between all signs.");
        int[] others = {9, 10, 13, 31, 34, 127, 128, 160, 224, 255};
        String[] texts = {"A.;ab", "y:c", "Aa"};
        for (int sort = 0; sort < 3; sort++) {
            for (int at = 0; at <= texts[sort].length(); at++) {
                String head = texts[sort].substring(0, at);
                String tail = texts[sort].substring(at);
                due("a blank", faultOf(sort, head + "   " + tail), NONE);
                for (int other : others) {
                    due("byte " + other, faultOf(sort, head + (char) other + tail), at);
                }
            }
        }
        due("within a number", faultOf(1, "y:1 2 3 4"), NONE);
        due("a fifth digit behind a blank", faultOf(1, "y:1 2 3 4 5"), 10);
        isTrue("1 2=12", true);
    }

    private static int faultOf(int sort, String s) {
        DeskMoves x = new DeskMoves();
        feed(x, s);
        return x.fault(sort);
    }

    // ---- promises 1 to 18

    private static void newObject() {
        promise = 1;
        says("No OFFICE.");
        int[] told = {0, 0, 0, 0, NONE, 0, NONE};
        for (int what = 0; what < told.length; what++) {
            int w = what;
            leaves("told(" + what + ")", FRESH, x -> x.told(w), told[what]);
        }
        for (int sort = 0; sort < 3; sort++) {
            int s = sort;
            leaves("fault", FRESH, x -> x.fault(s), 0);
            leaves("text", FRESH, x -> x.text(s), NONE);
        }
        leaves("desk", FRESH, x -> desk(x, 0), THROWN);
        leaves("door", FRESH, x -> x.door(0, 1), NONE);
        leaves("quarrel", FRESH, x -> x.quarrel(0, 1), NONE);
        leaves("set", FRESH, x -> one(x.set(0, 0, 0)), 0);
        leaves("clerk", FRESH, x -> x.clerk(0, 0), NONE);
        leaves("law none", FRESH, x -> one(x.law(NONE)), 0);
        leaves("law 0", FRESH, x -> one(x.law(0)), 0);
        leaves("let", FRESH, x -> x.let(0, 1), NONE);
        leaves("move", FRESH, x -> x.move(0, 1), NONE);
        leaves("undo", FRESH, DeskMoves::undo, NONE);
        leaves("diary", FRESH, x -> x.diary(0), NONE);
        leaves("judge", FRESH, x -> x.judge(0, 0), HIDDEN);
        leaves("wish nothing", FRESH, x -> one(x.wish(0, NONE)), 0);
        leaves("wish empty", FRESH, x -> one(x.wish(0, 12)), 0);
        leaves("done", FRESH, DeskMoves::done, NONE);
        leaves("fewest", FRESH, x -> x.fewest(NONE), HIDDEN);
        leaves("fewest 0", FRESH, x -> x.fewest(0), HIDDEN);
        leaves("cheapest", FRESH, DeskMoves::cheapest, HIDDEN);
        leaves("all", FRESH, x -> x.all(0), HIDDEN);
        leaves("far", FRESH, x -> x.all(1), HIDDEN);
        leaves("count", FRESH, x -> x.count(0), HIDDEN);
        leaves("ill", FRESH, x -> x.ill(0), HIDDEN);
        leaves("holds", FRESH, DeskMoves::holds, HIDDEN);
        leaves("sort", FRESH, DeskMoves::sort, NONE);
        leaves("can", FRESH, DeskMoves::can, NONE);
        leaves("worth", FRESH, x -> one(x.worth(0, 0, 0)), 0);
        leaves("seated", FRESH, x -> x.seated(NONE), NONE);
        leaves("seated 0", FRESH, x -> x.seated(0), NONE);
        leaves("best", FRESH, x -> x.best(NONE), NONE);
        leaves("best 0", FRESH, x -> x.best(0), NONE);
        leaves("gains", FRESH, x -> x.gains(0, 0), NONE);
        leaves("exchange", FRESH, x -> x.exchange(0), NONE);
        leaves("agree", FRESH, x -> x.agree(NONE), NONE);
        leaves("vote", FRESH, x -> x.vote(0, 1), HIDDEN);
        leaves("image", FRESH, DeskMoves::image, NONE);
        leaves("back", FRESH, DeskMoves::back, NONE);
    }

    /** A rich object whose tape has so many bytes. */
    private static Make taped(int bytes) {
        return () -> {
            DeskMoves x = RICH.make();
            x.end(0);
            feed(x, ("A.;ab;" + "y:1,Aa".repeat(30)).substring(0, bytes));
            return x;
        };
    }

    /** As many bytes of a feed as told, from the last on. */
    private static int feedSome(DeskMoves x, int bytes) {
        int[] five = new int[5];
        for (int i = 0; i < bytes; i++) {
            five[4 - i / 4] |= 'a' << 8 * (i % 4);
        }
        return x.feed(five[0], five[1], five[2], five[3], five[4]);
    }

    private static void feeding() {
        promise = 2;
        says("NONE: more than 160.");
        for (int bytes = 140; bytes <= 160; bytes++) {
            int room = 160 - bytes;
            answers("up to 160 from " + bytes, taped(bytes), x -> feedSome(x, room), 160);
            if (room < 20) {
                leaves("one more from " + bytes, taped(bytes), x -> feedSome(x, room + 1), NONE);
                leaves("twenty from " + bytes, taped(bytes), x -> feedSome(x, 20), NONE);
            }
        }
        answers("from nothing", FRESH, x -> feedSome(x, 20), 20);
        answers("a refused one does not stay", taped(159), x -> {
            feedSome(x, 2);
            return feedSome(x, 1);
        }, 160);
        says("bytes of 0 are left out");
        answers("no bytes", FRESH, x -> x.feed(0, 0, 0, 0, 0), 0);
        leaves("no bytes for a full one", taped(160), x -> x.feed(0, 0, 0, 0, 0), 160);
        for (int at = 0; at < 20; at++) {
            int place = at;
            answers("a byte of 255 at " + at, FRESH, x -> feedOne(x, place, 255), 1);
            answers("a byte of 1 at " + at, FRESH, x -> feedOne(x, place, 1), 1);
            answers("a byte of 128 at " + at, FRESH, x -> feedOne(x, place, 128), 1);
            for (int b : new int[] {1, 2, 65, 128, 255}) {
                leaves("one byte too many, " + b + " at " + at, taped(160), x -> feedOne(x, place, b), NONE);
                answers("the last byte, " + b + " at " + at, taped(159), x -> feedOne(x, place, b), 160);
            }
        }
        says("of each number the highest first");
        DeskMoves x = new DeskMoves();
        due("twenty bytes", x.feed(0x41424344, 0x45464748, 0x494A4B2E, 0x3B61622C, 0x62632C63), 20);
        due("one more", x.feed(0, 0x00006400, 0, 0, 0), 21);
        due("desks", x.text(0), 12);
        sits(x, "ABCDEFGHIJK.");
        due("the last door", x.door(2, 3), 1);
    }

    private static int feedOne(DeskMoves x, int place, int b) {
        int[] five = new int[5];
        five[place / 4] = b << 24 - place % 4 * 8;
        return x.feed(five[0], five[1], five[2], five[3], five[4]);
    }

    private static void ending() {
        promise = 3;
        says("The TAPE has its first n bytes alone. False: n.");
        int[] lengths = {0, 1, 7, 20, 159, 160};
        for (int length : lengths) {
            outside("end of " + length, taped(length), (x, n) -> one(x.end(n)), 0, length, 0);
            leaves("all of " + length, taped(length), x -> one(x.end(length)), 1);
            answers("nothing of " + length, taped(length), x -> {
                x.end(0);
                return x.told(3);
            }, 0);
            for (int n = 0; n <= length; n += Math.max(1, length / 8)) {
                int first = n;
                answers(n + " of " + length, taped(length), x -> 1000 * one(x.end(first)) + x.told(3), 1000 + n);
                due("as if no more had come", alike(taped(first), () -> {
                    DeskMoves x = taped(length).make();
                    x.end(first);
                    return x;
                }), true);
            }
        }
        answers("what was behind does not come again", taped(7), x -> {
            x.end(5);
            return one(x.end(7));
        }, 0);
    }

    private static boolean alike(Make one, Make other) {
        for (int part = 0; part < PARTS; part++) {
            if (!portrait(one.make(), part).equals(portrait(other.make(), part))) {
                return false;
            }
        }
        return true;
    }

    private static void faults() {
        promise = 4;
        says("NONE: none. -2: no such sort.");
        outside("fault", RICH, (x, sort) -> x.fault(sort), 0, 2, -2);
        outside("fault of nothing", FRESH, (x, sort) -> x.fault(sort), 0, 2, -2);
        leaves("an office's", RICH, x -> x.fault(0), 0);
        leaves("a law's", RICH, x -> x.fault(1), NONE);
        leaves("a plan's", RICH, x -> x.fault(2), 0);
        for (int length = 0; length <= 6; length++) {
            int n = length;
            leaves("of " + length, taped(length), x -> x.fault(0), length == 5 ? NONE : n);
        }
        leaves("of a full one", taped(160), x -> x.fault(0), 6);
        answers("a plan without an office", FRESH, x -> {
            feed(x, "Ll");
            return x.fault(2);
        }, NONE);
        says("the ; behind too few DESKS, without an EMPTY one or a CLERK, at it");
        due("none", faultOf(0, ";"), 0);
        due("one desk", faultOf(0, "A;"), 1);
        due("one empty desk", faultOf(0, ".;"), 1);
        due("two desks", faultOf(0, "A.;"), 3);
        due("two clerks", faultOf(0, "AB;"), 2);
        due("two empty ones", faultOf(0, "..;"), 2);
        due("twelve clerks", faultOf(0, "ABCDEFGHIJKL;"), 12);
        due("twelve empty ones", faultOf(0, "............;"), 12);
        says("a thirteenth DESK, a CLERK told twice, a letter that is no DESK's, no CLERK's there");
        due("a twelfth", faultOf(0, "ABCDEFGHIJK."), 12);
        due("a thirteenth", faultOf(0, "ABCDEFGHIJK.."), 12);
        due("a thirteenth behind blanks", faultOf(0, "ABCDEFGHIJK.  ."), 14);
        due("twice", faultOf(0, "ABCA"), 3);
        due("no desk's", faultOf(0, "A..;ad"), 5);
        due("no desk's at first", faultOf(0, "A..;d"), 4);
        due("no clerk's there", faultOf(0, "AB.;ab;C"), 7);
        due("no clerk's there behind", faultOf(0, "AB.;ab;AC"), 8);
        says("a second letter by which the pair is alike, or was there, are wrong at it");
        due("alike", faultOf(0, "A.;bb"), 4);
        due("was there", faultOf(0, "A..;ab,ac,ca"), 11);
        due("was there as it was", faultOf(0, "A..;ab,ac,ac"), 11);
        due("clerks alike", faultOf(0, "AB.;ab;BB"), 8);
        due("clerks were there", faultOf(0, "AB.;ab;AB,BA"), 11);
    }

    private static void texts() {
        promise = 5;
        says("NONE: a FAULT, no such sort, there are four LAWS, no OFFICE for a PLAN.");
        outside("text", RICH, (x, sort) -> x.text(sort), 0, 2, NONE);
        leaves("a law as an office", RICH, x -> x.text(0), NONE);
        leaves("a law as a plan", RICH, x -> x.text(2), NONE);
        leaves("a plan without an office", () -> {
            DeskMoves x = new DeskMoves();
            feed(x, "Aa");
            return x;
        }, x -> x.text(2), NONE);
        says("LAWS (4 at most)");
        for (int laws = 0; laws < 4; laws++) {
            answers("one more than " + laws, lawful(laws, "y:4"), x -> x.text(1), laws);
            int n = laws;
            answers("they are", lawful(laws, "y:4"), x -> x.text(1) + 10 * x.told(2), n + 10 * (n + 1));
        }
        leaves("a fifth", lawful(4, "y:4"), x -> x.text(1), NONE);
        answers("with a new office too", lawful(4, "A.;ab"), x -> {
            x.text(0);
            feed(x, "y:1");
            return x.text(1) + 10 * x.told(3);
        }, 29);
        answers("a law needs no office", () -> {
            DeskMoves x = new DeskMoves();
            feed(x, "y:1");
            return x;
        }, x -> x.text(1), 0);
        says("The TAPE (empty then) is the OFFICE (in place of one ahead, with all that was of it but LAWS; no LAW holds then)");
        String[] next = {"A.;ab", "AB.C;ab,bc2,cd,da3;AB", "L.BA.;ab,bc,ce,de9;AL,AB", "ABCDEFGHIJK.;al"};
        for (String s : next) {
            for (int between = 0; between < 3; between++) {
                int others = between;
                due("nothing is left of the one ahead: " + s, alike(() -> {
                    DeskMoves x = RICH.make();
                    x.text(1);
                    x.law(2);
                    x.holds();
                    x.gains(0, 0);
                    for (int i = 0; i < others; i++) {
                        text(x, 0, "CBAD.;ae,eb3,bc;AD");
                        x.set(i, 0, 3);
                        x.all(0);
                    }
                    text(x, 0, s);
                    return x;
                }, () -> {
                    DeskMoves x = new DeskMoves();
                    text(x, 1, "y:2-q");
                    text(x, 1, "y:9-l*p");
                    text(x, 1, "y:1=1?3");
                    text(x, 0, s);
                    return x;
                }), true);
            }
        }
    }

    /** Offices of two to eight desks and back, each searched in the same object. */
    private static void growing() {
        promise = 20;
        says("in place of one ahead");
        DeskMoves x = new DeskMoves();
        int[] sizes = {2, 3, 4, 5, 6, 7, 8, 2, 8, 5};
        for (int size : sizes) {
            StringBuilder s = new StringBuilder("A" + ".".repeat(size - 1) + ";");
            for (int d = 1; d < size; d++) {
                s.append(d > 1 ? "," : "").append((char) ('a' + d - 1)).append((char) ('a' + d)).append(d);
            }
            due("desks", text(x, 0, s.toString()), size);
            due("wish", x.wish(size - 1, 0), true);
            due("cheapest of " + size, x.cheapest(), size * (size - 1) / 2);
            due("fewest of " + size, x.fewest(NONE), size - 1);
            due("all of " + size, x.all(0), size);
            due("ill of " + size, x.ill(0), 0);
        }
    }

    /** An office with so many laws, and a text on the tape. */
    private static Make lawful(int laws, String tape) {
        return () -> {
            DeskMoves x = office("AB.;ab,bc,ca");
            for (int i = 0; i < laws; i++) {
                text(x, 1, "y:" + i % 2);
            }
            x.law(laws - 1);
            feed(x, tape);
            return x;
        };
    }

    private static void desks() {
        promise = 6;
        says("(NONE: EMPTY). NoSuchElementException: no such DESK.");
        outside("desk of two", TWO, BoundaryTests::desk, 0, 1, THROWN);
        outside("desk of four", RICH, BoundaryTests::desk, 0, 3, THROWN);
        outside("desk of twelve", TWELVE, BoundaryTests::desk, 0, 11, THROWN);
        outside("desk of none", FRESH, BoundaryTests::desk, 0, -1, THROWN);
        leaves("the first of two", TWO, x -> x.desk(0), 0);
        leaves("the last of two", TWO, x -> x.desk(1), NONE);
        leaves("the first of twelve", TWELVE, x -> x.desk(0), 0);
        leaves("the eleventh of twelve", TWELVE, x -> x.desk(10), 10);
        leaves("the last of twelve", TWELVE, x -> x.desk(11), NONE);
    }

    private static void doors() {
        promise = 7;
        says("LENGTH of the DOOR between two. NONE: none, no such ones.");
        outside("door of two", TWO, (x, d) -> x.door(d, 0), 0, 1, NONE);
        outside("door of two", TWO, (x, d) -> x.door(1, d), 0, 1, NONE);
        outside("door of twelve", TWELVE, (x, d) -> x.door(d, 0), 0, 11, NONE);
        outside("door of twelve", TWELVE, (x, d) -> x.door(11, d), 0, 11, NONE);
        outside("door of such twice", TWELVE, (x, d) -> x.door(d, d), 0, 11, NONE);
        leaves("of two", TWO, x -> x.door(1, 0), 1);
        leaves("of twelve", TWELVE, x -> x.door(11, 0), 1);
        leaves("of twelve", TWELVE, x -> x.door(10, 11), 1);
        leaves("none", TWELVE, x -> x.door(9, 11), NONE);
        leaves("alike", TWELVE, x -> x.door(0, 0), NONE);
        leaves("a longer one", RICH, x -> x.door(0, 3), 3);
    }

    private static void quarrels() {
        promise = 8;
        says("Whether two QUARREL (1, 0). NONE: no such ones, alike.");
        outside("quarrel", TWELVE, (x, c) -> x.quarrel(c, 0), 0, 10, NONE);
        outside("quarrel", TWELVE, (x, c) -> x.quarrel(10, c), 0, 10, NONE);
        outside("quarrel", TWO, (x, c) -> x.quarrel(0, c), 0, 0, NONE);
        leaves("they do", TWELVE, x -> x.quarrel(10, 0), 1);
        leaves("they do", TWELVE, x -> x.quarrel(0, 10), 1);
        leaves("they don't", TWELVE, x -> x.quarrel(0, 9), 0);
        for (int c = 0; c <= 12; c++) {
            int same = c;
            leaves("alike", TWELVE, x -> x.quarrel(same, same), NONE);
        }
        leaves("one who is not there", RICH, x -> x.quarrel(0, 3), NONE);
        leaves("one who is not there", RICH, x -> x.quarrel(3, 0), NONE);
        Make gap = () -> office("B.L;ab;BL");
        leaves("one between who is not there", gap, x -> x.quarrel(1, 5), NONE);
        leaves("the lowest who is not there", gap, x -> x.quarrel(0, 11), NONE);
        leaves("the last letter", gap, x -> x.quarrel(11, 1), 1);
    }

    private static void setting() {
        promise = 9;
        says("RANK (what 0), PAPERS (1) of a CLERK. False: no such ones, out of bounds.");
        for (int what = 0; what < 2; what++) {
            int w = what;
            outside("set", RICH, (x, v) -> one(x.set(1, w, v)), 0, 9, 0);
            outside("set for no clerk", RICH, (x, c) -> one(x.set(c, w, 5)), 0, 2, 0);
            outside("set for no clerk", TWELVE, (x, c) -> one(x.set(c, w, 5)), 0, 10, 0);
            for (int v = 0; v <= 9; v++) {
                int value = v;
                answers("set", RICH, x -> 100 * one(x.set(1, w, value)) + 10 * x.clerk(1, w + 1) + x.clerk(1, 2 - w),
                    100 + 10 * v + (w == 0 ? 3 : 0));
            }
        }
        outside("set what", RICH, (x, what) -> one(x.set(1, what, 5)), 0, 1, 0);
        says("RANK of a CLERK (0 .. 9; 0 at first), PAPERS (0 .. 9; 1)");
        for (int c = 0; c < 11; c++) {
            int clerk = c;
            answers("rank at first", TWELVE, x -> x.clerk(clerk, 1), 0);
            answers("papers at first", TWELVE, x -> x.clerk(clerk, 2), 1);
        }
        says("COST: PAPERS times LENGTH");
        answers("nine times nine", () -> office("A.;ab9"), x -> {
            x.set(0, 1, 9);
            return x.move(0, 1);
        }, 81);
        answers("none", () -> office("A.;ab9"), x -> {
            x.set(0, 1, 0);
            return x.move(0, 1);
        }, 0);
    }

    private static void clerks() {
        promise = 10;
        says("3 how many sit BESIDE it, 4 with how many of these it QUARRELS. NONE: no such ones.");
        outside("what", RICH, (x, what) -> x.clerk(0, what), 0, 4, NONE);
        for (int what = 0; what < 5; what++) {
            int w = what;
            outside("clerk", RICH, (x, c) -> x.clerk(c, w), 0, 2, NONE);
        }
        outside("clerk", TWELVE, (x, c) -> x.clerk(c, 3), 0, 10, NONE);
        Make star = () -> office("ABCDEFGHIJK.;ab,ac,ad,ae,af,ag,ah,ai,aj,ak,al;AB,AC,AD,AE,AF,AG,AH,AI,AJ,AK");
        leaves("all the others", star, x -> x.clerk(0, 3), 10);
        leaves("with all the others", star, x -> x.clerk(0, 4), 10);
        leaves("one", star, x -> x.clerk(10, 3), 1);
        leaves("with one", star, x -> x.clerk(10, 4), 1);
        leaves("nobody", TWO, x -> x.clerk(0, 3), 0);
        leaves("with nobody", TWO, x -> x.clerk(0, 4), 0);
        leaves("the last desk", () -> office("...........L;ab"), x -> x.clerk(11, 0), 11);
    }

    private static void laws() {
        promise = 11;
        says("The LAW that holds (NONE: none). False: no such one, no OFFICE.");
        for (int laws = 0; laws <= 4; laws++) {
            Make make = lawful(laws, "");
            outside("law of " + laws, make, (x, law) -> one(x.law(law)), NONE, laws - 1, 0);
            answers("none", make, x -> 10 * one(x.law(NONE)) + x.told(6), 9);
            for (int law = 0; law < laws; law++) {
                int l = law;
                answers("law " + law, make, x -> 10 * one(x.law(l)) + x.told(6), 10 + law);
                answers("law " + law + " lets", make, x -> {
                    x.law(l);
                    return x.let(0, 2);
                }, law % 2);
            }
        }
        leaves("no office", () -> {
            DeskMoves x = new DeskMoves();
            text(x, 1, "y:0");
            return x;
        }, x -> one(x.law(0)), 0);
        says("if there is no LAW that holds (at first; one of the LAWS, or none, is told to hold)");
        answers("at first", () -> {
            DeskMoves x = office("A.;ab");
            text(x, 1, "y:0");
            return x;
        }, x -> 10 * x.told(6) + x.let(0, 1), -9);
    }

    private static void letting() {
        promise = 12;
        says("or WORTH of that is above 0");
        String[] worths = {"1", "0", "0-1", "1000*1000", "0-1000*1000", "1/2"};
        int[] lets = {1, 0, 0, 1, 0, 0};
        for (int i = 0; i < worths.length; i++) {
            String law = "y:" + worths[i];
            int want = lets[i];
            Make make = () -> ruled("AB.;ab,bc", law);
            leaves("worth " + worths[i], make, x -> x.let(1, 2), want);
            leaves("no door, whatever the worth", make, x -> x.let(0, 2), NONE);
            leaves("not empty, whatever the worth", make, x -> x.let(0, 1), NONE);
        }
        says("Whether a MOVE is LET now (1, 0). NONE: it can't be made, no such ones.");
        leaves("it is", RICH, x -> x.let(1, 3), 1);
        leaves("it is", RICH, x -> x.let(2, 3), 1);
        leaves("not empty", RICH, x -> x.let(1, 1), NONE);
        leaves("its own desk", RICH, x -> x.let(1, 2), NONE);
        leaves("no door", RICH, x -> x.let(0, 3), NONE);
        outside("no clerk", RICH, (x, c) -> x.let(c, 3), 0, 2, NONE);
        outside("no desk", RICH, (x, d) -> x.let(1, d), 0, 3, NONE);
        outside("no clerk of twelve", TWELVE, (x, c) -> x.let(c, 11), 0, 10, NONE);
        outside("no desk of twelve", TWELVE, (x, d) -> x.let(10, d), 0, 11, NONE);
        leaves("the last of twelve", TWELVE, x -> x.let(10, 11), 1);
        leaves("the first of twelve", TWELVE, x -> x.let(0, 11), 1);
    }

    private static void moving() {
        promise = 13;
        says("A MOVE: its COST. NONE: it can't be made, is not LET, no such ones.");
        leaves("not empty", RICH, x -> x.move(1, 1), NONE);
        leaves("its own desk", RICH, x -> x.move(1, 2), NONE);
        leaves("no door", RICH, x -> x.move(0, 3), NONE);
        outside("no clerk", RICH, (x, c) -> x.move(c, 3), 0, 2, NONE);
        outside("no desk", RICH, (x, d) -> x.move(1, d), 0, 3, NONE);
        outside("no clerk of twelve", TWELVE, (x, c) -> x.move(c, 11), 0, 10, NONE);
        outside("no desk of twelve", TWELVE, (x, d) -> x.move(10, d), 0, 11, NONE);
        leaves("not let", () -> ruled("A.;ab", "y:0"), x -> x.move(0, 1), NONE);
        leaves("not let", () -> ruled("A.;ab", "y:0-1"), x -> x.move(0, 1), NONE);
        answers("let", () -> ruled("A.;ab", "y:1"), x -> x.move(0, 1), 1);
        answers("its cost", RICH, x -> x.move(1, 3), 3);
        answers("its cost by a longer door", RICH, x -> x.move(2, 3), 3);
        answers("where it sits then", RICH, x -> 100 * x.move(1, 3) + 10 * x.desk(3) + x.clerk(1, 0), 313);
        answers("where it sat", RICH, x -> x.move(1, 3) + x.desk(2), 2);
        answers("a refused one is no move of the diary", RICH, x -> 10 * x.told(5) + x.move(0, 3) + x.told(5), 32);
    }

    /** A clerk who went round a ring of seven so many times. */
    private static Make walked(int moves) {
        return () -> {
            DeskMoves x = office("A......;ab,bc,cd,de,ef,fg,ga");
            for (int i = 1; i <= moves; i++) {
                x.move(0, i % 7);
            }
            return x;
        };
    }

    private static void undoing() {
        promise = 14;
        says("The latest MOVE is UNDONE: how many are in the DIARY. NONE: none.");
        leaves("none yet", TWO, DeskMoves::undo, NONE);
        leaves("none yet of nine", () -> office("ABCDEFGH.;ab,hi"), DeskMoves::undo, NONE);
        int[] lengths = {1, 2, 99, 100, 101, 150};
        for (int moves : lengths) {
            int kept = Math.min(moves, 100);
            answers("of " + moves, walked(moves), DeskMoves::undo, kept - 1);
            DeskMoves x = walked(moves).make();
            for (int left = kept - 1; left >= 0; left--) {
                due("undo of " + moves, x.undo(), left);
                due("where it sits", x.clerk(0, 0), (moves - kept + left) % 7);
            }
            due("all undone", x.undo(), NONE);
            due("it stays", x.clerk(0, 0), (moves - kept) % 7);
            leaves("all undone", () -> {
                DeskMoves y = walked(moves).make();
                for (int i = 0; i < kept; i++) {
                    y.undo();
                }
                return y;
            }, DeskMoves::undo, NONE);
        }
        answers("whatever law holds", () -> {
            DeskMoves x = walked(3).make();
            text(x, 1, "y:0");
            x.law(0);
            return x;
        }, x -> 10 * x.undo() + x.clerk(0, 0), 22);
    }

    private static void diaries() {
        promise = 15;
        says("The DIARY keeps the latest 100 MOVES");
        int[] lengths = {0, 1, 99, 100, 101, 107, 200};
        for (int moves : lengths) {
            int kept = Math.min(moves, 100);
            answers("moves of " + moves, walked(moves), x -> x.told(5), kept);
            outside("diary of " + moves, walked(moves), (x, i) -> x.diary(i), 0, kept - 1, NONE);
            for (int i = 0; i < kept; i++) {
                int n = i;
                answers("diary " + i + " of " + moves, walked(moves), x -> x.diary(n), (moves - kept + 1 + i) % 7);
            }
        }
        answers("ninety-nine and one", walked(101), x -> {
            x.undo();
            x.move(0, 3);
            return 1000 * x.told(5) + x.diary(99);
        }, 100003);
        says("16 times the CLERK and the DESK it went to. NONE: no such one.");
        answers("the greatest", () -> office("..........L.;kl"), x -> x.move(11, 11) + x.diary(0), 188);
        answers("the least", () -> office(".A;ab"), x -> x.move(0, 0) + x.diary(0), 1);
    }

    private static Make planned(String office, String plan) {
        return () -> {
            DeskMoves x = office(office);
            due("moves of " + plan, text(x, 2, plan), (plan.length() + 1) / 3);
            return x;
        };
    }

    /** 100000 times the first wrong move and 1, 10000 times why, and the cost. */
    private static long judged(DeskMoves x, int rules) {
        return 100000L * (x.judge(rules, 0) + 1) + 10000L * x.judge(rules, 1) + x.judge(rules, 2);
    }

    private static long verdict(int first, int why, int cost) {
        return 100000L * (first + 1) + 10000L * why + cost;
    }

    private static void judging() {
        promise = 16;
        says("(rules 0 .. 7): 0 the first wrong MOVE (NONE: none), 1 why (0: nothing), 2 COST up to there. HIDDEN: no PLAN, no such ones.");
        for (int what = 0; what < 3; what++) {
            int w = what;
            outside("rules", RICH, (x, rules) -> x.judge(rules, w), 0, 7, HIDDEN);
            leaves("no plan", EIGHT, x -> x.judge(0, w), HIDDEN);
        }
        for (int rules = 0; rules < 8; rules++) {
            int r = rules;
            outside("what", RICH, (x, what) -> x.judge(r, what), 0, 2, HIDDEN);
        }
        // From CAB. on: the second move brings A beside B, the third is A's second.
        int[] first = {NONE, 2, NONE, 2, 1, 1, 1, 1};
        int[] why = {0, 5, 0, 5, 7, 7, 7, 7};
        int[] cost = {7, 5, 7, 5, 3, 3, 3, 3};
        for (int rules = 0; rules < 8; rules++) {
            int r = rules;
            leaves("first of rules " + rules, RICH, x -> x.judge(r, 0), first[r]);
            leaves("why of rules " + rules, RICH, x -> x.judge(r, 1), why[r]);
            leaves("cost of rules " + rules, RICH, x -> x.judge(r, 2), cost[r]);
        }
        answers("a plan of one", planned("A.;ab", "Ab"), x -> judged(x, 7), verdict(NONE, 0, 1));
        answers("the first of one", planned("A.;ab", "Aa"), x -> judged(x, 7), verdict(0, 2, 0));
        String forty = "Ab" + ",Aa,Ab".repeat(19) + ",Aa";
        answers("forty moves", () -> {
            DeskMoves x = planned("A.;ab9", forty).make();
            x.set(0, 1, 9);
            return x;
        }, x -> judged(x, 6), verdict(NONE, 0, 3240));
        String wrongLast = forty.substring(0, 117) + "Ba";
        answers("the fortieth", planned("A.;ab9", wrongLast), x -> judged(x, 6), verdict(39, 1, 351));
        answers("a new plan instead", RICH, x -> {
            text(x, 2, "Bd");
            return 10 * judged(x, 7) + x.told(4);
        }, 31);
        whys();
    }

    private static void whys() {
        says("why: 1 no such CLERK there or no DESK, 2 no DOOR, 3 not EMPTY, 4 not LET, 5 twice, 6 RANK, 7 QUARREL (the least that is so)");
        String row = "AB..;ab,bc,cd";
        answers("no clerk", planned(row, "Cc"), x -> judged(x, 7), verdict(0, 1, 0));
        answers("no clerk, though L is a letter", planned(row, "Lc"), x -> judged(x, 7), verdict(0, 1, 0));
        answers("no desk", planned(row, "Be"), x -> judged(x, 7), verdict(0, 1, 0));
        answers("the last desk", planned(row, "Bc,Bd"), x -> judged(x, 0), verdict(NONE, 0, 2));
        answers("no door", planned(row, "Bd"), x -> judged(x, 7), verdict(0, 2, 0));
        answers("its own desk", planned(row, "Bb"), x -> judged(x, 7), verdict(0, 2, 0));
        answers("not empty", planned(row, "Ab"), x -> judged(x, 7), verdict(0, 3, 0));
        answers("no door ahead of not empty", planned("ABC.;ab,bc,cd", "Ac"), x -> judged(x, 7), verdict(0, 2, 0));
        Make strict = () -> {
            DeskMoves x = office("AB..;ab,bc,cd;AB");
            text(x, 1, "y:c=1&f=1|c=0?1");
            x.law(0);
            x.set(0, 0, 9);
            return x;
        };
        judgedSo("not let", strict, "Bc,Bd", 0, verdict(1, 4, 1));
        judgedSo("not let ahead of twice", strict, "Bc,Bd", 1, verdict(1, 4, 1));
        judgedSo("no clerk ahead of not empty", strict, "Bc,Ab,Cb", 0, verdict(2, 1, 2));
        judgedSo("a quarrel ahead of what is behind it", strict, "Bc,Ab,Bb", 7, verdict(1, 7, 1));
        judgedSo("no door ahead of twice", strict, "Bc,Ab,Ab,Bb", 1, verdict(2, 2, 2));
        judgedSo("not empty ahead of not let, twice and rank", strict, "Bc,Ab,Bb", 3, verdict(2, 3, 2));
        judgedSo("not let ahead of rank", strict, "Bc,Ab,Bd", 2, verdict(2, 4, 2));
        everyRule();
        rankBounds();
        quarrelBounds();
    }

    private static void judgedSo(String what, Make make, String plan, int rules, long want) {
        answers(what + ": " + plan, () -> {
            DeskMoves x = make.make();
            text(x, 2, plan);
            return x;
        }, x -> judged(x, rules), want);
    }

    /** The third move is A's second, behind B's of higher rank, and brings A beside B. */
    private static void everyRule() {
        says("(bits: 1 no CLERK moves twice, 2 nobody moves behind one of higher RANK, 4 behind no MOVE two sit BESIDE one another who QUARREL)");
        Make make = () -> {
            DeskMoves x = planned("A...B;ab,bc,cd,de;AB", "Ab,Bd,Ac").make();
            x.set(1, 0, 1);
            return x;
        };
        int[] why = {0, 5, 6, 5, 7, 5, 6, 5};
        for (int rules = 0; rules < 8; rules++) {
            int r = rules;
            answers("rules " + rules, make, x -> judged(x, r), rules == 0 ? verdict(NONE, 0, 3) : verdict(2, why[rules], 2));
        }
    }

    private static void rankBounds() {
        says("nobody moves behind one of higher RANK");
        int[][] ranks = {{0, 0, 0}, {0, 1, 0}, {1, 0, 6}, {5, 5, 0}, {5, 4, 6}, {4, 5, 0}, {9, 8, 6}, {9, 9, 0}, {0, 9, 0}, {9, 0, 6}};
        for (int[] r : ranks) {
            Make make = () -> {
                DeskMoves x = planned("A.B.;ab,cd", "Ab,Bd").make();
                x.set(0, 0, r[0]);
                x.set(1, 0, r[1]);
                return x;
            };
            answers(r[1] + " behind " + r[0], make, x -> judged(x, 2), r[2] == 0 ? verdict(NONE, 0, 2) : verdict(1, 6, 1));
        }
        answers("not just behind the last one", () -> {
            DeskMoves x = planned("A.B.C.;ab,cd,ef", "Ab,Bd,Cf").make();
            x.set(0, 0, 5);
            x.set(1, 0, 6);
            x.set(2, 0, 5);
            return x;
        }, x -> judged(x, 2), verdict(2, 6, 2));
        answers("what was ahead of the plan does not count", () -> {
            DeskMoves x = office("A.B.;ab,cd");
            x.set(0, 0, 5);
            x.move(0, 1);
            text(x, 2, "Bd");
            return x;
        }, x -> judged(x, 7), verdict(NONE, 0, 1));
    }

    private static void quarrelBounds() {
        says("behind no MOVE two sit BESIDE one another who QUARREL");
        answers("they sat so ahead of it", planned("AB.;ab,bc;AB", "Bc"), x -> judged(x, 4), verdict(NONE, 0, 1));
        answers("they sit so behind it", planned("A.B;ab,bc;AB", "Ab"), x -> judged(x, 4), verdict(0, 7, 0));
        answers("two others", planned("ABC.;ab,bc,cd;AB", "Cd"), x -> judged(x, 4), verdict(0, 7, 0));
        answers("beside without a quarrel", planned("A.B;ab,bc", "Ab"), x -> judged(x, 4), verdict(NONE, 0, 1));
        answers("a quarrel without a door", planned("A.B;ab;AB", "Ab"), x -> judged(x, 4), verdict(NONE, 0, 1));
    }

    private static void wishing() {
        promise = 17;
        says("(clerk NONE: nothing; 12: EMPTY). False: no such ones, that CLERK is wished elsewhere.");
        outside("desk", RICH, (x, d) -> one(x.wish(d, 2)), 0, 3, 0);
        outside("desk for nothing", RICH, (x, d) -> one(x.wish(d, NONE)), 0, 3, 0);
        outside("desk for empty", RICH, (x, d) -> one(x.wish(d, 12)), 0, 3, 0);
        outside("desk of twelve", TWELVE, (x, d) -> one(x.wish(d, 0)), 0, 11, 0);
        outside("clerk", RICH, (x, c) -> one(x.wish(1, c)), NONE, 12, 0);
        for (int c = 3; c < 12; c++) {
            int clerk = c;
            leaves("who is not there: " + c, RICH, x -> one(x.wish(1, clerk)), 0);
        }
        leaves("wished elsewhere", RICH, x -> one(x.wish(1, 1)), 0);
        leaves("wished elsewhere", RICH, x -> one(x.wish(3, 1)), 0);
        leaves("wished there already", RICH, x -> one(x.wish(0, 1)), 1);
        leaves("empty there already", RICH, x -> one(x.wish(3, 12)), 1);
        leaves("nothing there already", RICH, x -> one(x.wish(1, NONE)), 1);
        answers("not wished elsewhere any more", RICH, x -> 10 * one(x.wish(0, NONE)) + one(x.wish(1, 1)), 11);
        answers("another is wished there", RICH, x -> 10 * one(x.wish(0, 2)) + one(x.wish(1, 1)), 11);
        answers("it is to be empty", RICH, x -> 10 * one(x.wish(0, 12)) + one(x.wish(1, 1)), 11);
        answers("empty may be wished elsewhere", RICH, x -> 10 * one(x.wish(1, 12)) + one(x.wish(3, 12)), 11);
        answers("the last clerk and desk", () -> office("..........L.;kl"), x -> 10 * one(x.wish(11, 11)) + x.done(), 10);
        answers("the last clerk where it sits", () -> office("..........L.;kl"), x -> 10 * one(x.wish(10, 11)) + x.done(), 11);
        says("or nothing (at first)");
        for (int d = 0; d < 12; d++) {
            int desk = d;
            answers("all clerks can be wished for " + d, TWELVE, x -> {
                int taken = 0;
                for (int c = 0; c < 11; c++) {
                    taken += x.wish(desk, c) ? 1 : 0;
                }
                return taken;
            }, 11);
        }
    }

    private static void doing() {
        promise = 18;
        says("Whether it is DONE (1, 0). NONE: no OFFICE.");
        leaves("nothing is wished", TWO, DeskMoves::done, 1);
        leaves("not yet", RICH, DeskMoves::done, 0);
        answers("all but one", RICH, x -> {
            wishes(x, "CA.B");
            return x.done();
        }, 0);
        answers("all", RICH, x -> {
            wishes(x, "CAB.");
            return x.done();
        }, 1);
        answers("more than eight desks too", TWELVE, x -> one(x.wish(11, 12)) * 10 + x.done(), 11);
        answers("more than eight desks too", TWELVE, x -> one(x.wish(0, 12)) * 10 + x.done(), 10);
    }

    // ---- promises 19 to 36

    private static final String RING = "AB.C;ab,bc2,cd,da";
    private static final String ROW8 = "ABCDEFG.;ab,bc,cd,de,ef,fg,gh";
    private static final String ROW9 = "ABCDEFGH.;ab,bc,cd,de,ef,fg,gh,hi";
    private static final String RING12 = "ABCDEFGHIJK.;ab,bc,cd,de,ef,fg,gh,hi,ij,jk,kl,la";
    private static final String THETA = "ABCDEF.;ab,bc,cd,de,ef,fa,ag,gd";

    private static Make wished(String office, String wishes) {
        return () -> {
            DeskMoves x = office(office);
            wishes(x, wishes);
            return x;
        };
    }

    private static void fewestMoves() {
        promise = 19;
        says("NONE: none, no such MOVE. HIDDEN: more than 8 DESKS, no OFFICE.");
        Make ring = wished(RING, "B   ");
        leaves("how many", ring, x -> x.fewest(NONE), 3);
        leaves("the first", ring, x -> x.fewest(0), 34);
        leaves("the second", ring, x -> x.fewest(1), 3);
        leaves("the last", ring, x -> x.fewest(2), 16);
        outside("move", ring, (x, i) -> x.fewest(i), NONE, 2, NONE);
        Make done = wished(RING, "AB.C");
        leaves("none is needed", done, x -> x.fewest(NONE), 0);
        outside("move of none", done, (x, i) -> x.fewest(i), NONE, NONE, NONE);
        Make never = wished(RING, "BA.C");
        leaves("none", never, x -> x.fewest(NONE), NONE);
        leaves("none", never, x -> x.fewest(0), NONE);
        outside("none", never, (x, i) -> x.fewest(i), NONE, 0, NONE);
        Make one = wished("A.;ab", ".A");
        leaves("one", one, x -> x.fewest(NONE), 1);
        leaves("the first of one", one, x -> x.fewest(0), 1);
        leaves("behind it", one, x -> x.fewest(1), NONE);
        leaves("eight desks", EIGHT, x -> x.fewest(NONE), 3);
        leaves("eight desks", EIGHT, x -> x.fewest(0), 102);
        leaves("eight desks", EIGHT, x -> x.fewest(1), 7);
        leaves("eight desks", EIGHT, x -> x.fewest(2), 16);
        leaves("nine desks", NINE, x -> x.fewest(NONE), HIDDEN);
        leaves("nine desks", NINE, x -> x.fewest(0), HIDDEN);
        outside("nine desks", NINE, (x, i) -> x.fewest(i), NONE, 2, HIDDEN);
        leaves("twelve desks", TWELVE, x -> x.fewest(NONE), HIDDEN);
        outside("no office", FRESH, (x, i) -> x.fewest(i), NONE, 2, HIDDEN);
        says("of several such rows that whose first MOVE has the lowest CLERK, then DESK it goes to, then the second, and so on");
        answers("the lowest clerk", wished(".A.B;ab,bc,cd,da", " . ."), x -> 1000 * x.fewest(0) + x.fewest(1), 18);
        answers("the lowest desk", wished(".A.;ab,bc", " . "), x -> x.fewest(0), 0);
        answers("the lowest desk of the second", wished("B.A.;ab,bc,cd,da", ". . "), x -> 1000 * x.fewest(0) + x.fewest(1), 1019);
    }

    private static void cheapestMoves() {
        promise = 20;
        says("CHEAPEST. NONE: none. HIDDEN likewise.");
        leaves("none is needed", wished(RING, "AB.C"), DeskMoves::cheapest, 0);
        leaves("none", wished(RING, "BA.C"), DeskMoves::cheapest, NONE);
        leaves("three", wished(RING, "B   "), DeskMoves::cheapest, 3);
        leaves("eight desks", EIGHT, DeskMoves::cheapest, 3);
        leaves("nine desks", NINE, DeskMoves::cheapest, HIDDEN);
        leaves("twelve desks", TWELVE, DeskMoves::cheapest, HIDDEN);
        says("CHEAPEST: the least COST together");
        int[] papers = {0, 1, 7, 8, 9};
        int[] costs = {0, 3, 9, 9, 9};
        for (int i = 0; i < papers.length; i++) {
            int p = papers[i];
            // Straight on it costs A nine; round by c one less than B's way out.
            answers("papers " + p, wished("A.B.;ab9,bc,ca,cd", " A  "), x -> {
                x.set(1, 1, p);
                x.set(0, 1, p == 0 ? 0 : 1);
                return x.cheapest();
            }, costs[i]);
        }
        answers("only through doors", wished("A..;ac5,cb7", " A "), DeskMoves::cheapest, 12);
        answers("the dearest move", wished("A.;ab9", ".A"), x -> {
            x.set(0, 1, 9);
            return x.cheapest();
        }, 81);
        answers("a move without papers", wished("A.;ab9", ".A"), x -> {
            x.set(0, 1, 0);
            return x.cheapest();
        }, 0);
        answers("all eight desks, the dearest", wished("A.......;ab9,bc9,cd9,de9,ef9,fg9,gh9", "       A"), x -> {
            x.set(0, 1, 9);
            return x.cheapest();
        }, 567);
    }

    private static void comingToAll() {
        promise = 21;
        says("ALL (0), FAR (1). HIDDEN likewise, no such what.");
        outside("what", RICH, (x, what) -> x.all(what), 0, 1, HIDDEN);
        outside("what of nine", NINE, (x, what) -> x.all(what), 0, 1, HIDDEN);
        leaves("all of nine", NINE, x -> x.all(0), HIDDEN);
        leaves("far of nine", NINE, x -> x.all(1), HIDDEN);
        leaves("all of eight", EIGHT, x -> x.all(0), 56);
        leaves("far of eight", EIGHT, x -> x.all(1), 28);
        leaves("all of two", TWO, x -> x.all(0), 2);
        leaves("far of two", TWO, x -> x.all(1), 1);
        says("how many seatings can be come to (the one that is, too)");
        Make stuck = () -> office("AB.;ab");
        leaves("none but the one that is", stuck, x -> x.all(0), 1);
        leaves("no move far", stuck, x -> x.all(1), 0);
        answers("none is let", () -> ruled("A.;ab", "y:0"), x -> 10 * x.all(0) + x.all(1), 10);
        String[] most = {"A.;ab", "AB.;ab,bc,ca", "ABC.;ab,bc,cd,da,ac", "ABCD.;ab,bc,cd,de,ea,ac",
            "ABCDE.;ab,bc,cd,de,ef,fa,ac", "ABCDEF.;ab,bc,cd,de,ef,fg,ga,ac", "ABCDEFG.;ab,bc,cd,de,ef,fg,gh,ha,ac"};
        int seatings = 1;
        for (int i = 0; i < most.length; i++) {
            String s = most[i];
            seatings *= i + 2;
            answers("the most of " + (i + 2) + " desks", () -> office(s), x -> x.all(0), seatings);
        }
        answers("six clerks on eight desks", () -> office("ABCDEF..;ab,bc,cd,de,ef,fg,gh,ha,ac"), x -> x.all(0), 20160);
        answers("one clerk on eight desks", () -> office("A.......;ab,bc,cd,de,ef,fg,gh"), x -> 100 * x.all(0) + x.all(1), 807);
    }

    private static void counting() {
        promise = 22;
        says("COUNT of MOVES k (0 .. 60): how many seatings are come to by k MOVES and no fewer");
        Make far = () -> office("ABCDEF.;ab,bc,cd,de,ef,fg,ga,ac");
        leaves("by none", far, x -> x.count(0), 1);
        leaves("by sixty", far, x -> x.count(60), 4);
        leaves("by fifty-nine", far, x -> x.count(59), 4);
        leaves("behind the farthest", TWO, x -> x.count(2), 0);
        leaves("the farthest", TWO, x -> x.count(1), 1);
        leaves("by sixty of two", TWO, x -> x.count(60), 0);
        says("COUNT. HIDDEN likewise, out of bounds.");
        outside("count", far, (x, k) -> x.count(k), 0, 60, HIDDEN);
        leaves("there are some farther", far, x -> x.all(1), 63);
        outside("count of two", TWO, (x, k) -> x.count(k), 0, 60, HIDDEN);
        leaves("eight desks", EIGHT, x -> x.count(28), 1);
        leaves("nine desks", NINE, x -> x.count(0), HIDDEN);
        leaves("nine desks", NINE, x -> x.count(60), HIDDEN);
        outside("nine desks", NINE, (x, k) -> x.count(k), 0, 60, HIDDEN);
        DeskMoves x = EIGHT.make();
        int sum = 0;
        for (int k = 0; k <= 60; k++) {
            sum += x.count(k);
        }
        due("all of them together", sum, 56);
    }

    private static void illness() {
        promise = 23;
        says("NONE: none. HIDDEN likewise, no such CLERK.");
        Make ring = wished(RING, "B   ");
        outside("clerk", ring, (x, c) -> x.ill(c), 0, 2, HIDDEN);
        outside("clerk of eight", EIGHT, (x, c) -> x.ill(c), 0, 6, HIDDEN);
        outside("clerk of nine", NINE, (x, c) -> x.ill(c), 0, -1, HIDDEN);
        leaves("nine desks", NINE, x -> x.ill(7), HIDDEN);
        leaves("eight desks", EIGHT, x -> x.ill(2), 3);
        leaves("none of eight", EIGHT, x -> x.ill(6), NONE);
        leaves("none", ring, x -> x.ill(2), NONE);
        says("the WISH for the DESK where it sits, and that for it elsewhere, left out");
        leaves("for the desk where it sits", ring, x -> x.ill(0), 0);
        leaves("for it elsewhere", ring, x -> x.ill(1), 0);
        leaves("both", wished("AB.;ab,bc,ca", "BA "), x -> x.ill(0), 0);
        leaves("that its desk be empty", wished("A.;ab", ". "), x -> x.ill(0), 0);
        leaves("another's stays", wished("A.B;ab,bc", ". A"), x -> x.ill(0), 0);
        leaves("another's stays", wished("A.B;ab,bc", ".B "), x -> x.ill(0), 1);
        leaves("it makes no moves to the first desk", wished(".AB;ab,bc", "  ."), x -> x.ill(0), NONE);
        leaves("nor to the last", wished("BA.;ab,bc", ".  "), x -> x.ill(0), NONE);
        answers("from where it sits now", wished("A..;ab,bc", " A "), x -> x.move(0, 1) + 10 * x.ill(0), 1);
    }

    private static void holding() {
        promise = 24;
        says("NONE: some can't be. HIDDEN likewise.");
        leaves("some can't be", wished(RING, "B   "), DeskMoves::holds, NONE);
        leaves("nothing is wished", TWO, DeskMoves::holds, 0);
        leaves("of eight", EIGHT, DeskMoves::holds, NONE);
        leaves("of nine", NINE, DeskMoves::holds, HIDDEN);
        leaves("of twelve", TWELVE, DeskMoves::holds, HIDDEN);
        Make free = wished("A.B.;ab2,cd5", ".A.B");
        leaves("all can be", free, DeskMoves::holds, 5);
        answers("of eight without a wish", EIGHT, x -> {
            x.wish(0, NONE);
            return x.holds();
        }, 0);
        answers("the only one is ill", wished("A.;ab", ".A"), DeskMoves::holds, 0);
    }

    private static void sorting() {
        promise = 25;
        says("NONE: no OFFICE, more than one EMPTY.");
        leaves("one empty", TWO, DeskMoves::sort, 1);
        leaves("two empty", () -> office("A..;ab,bc,ca"), DeskMoves::sort, NONE);
        leaves("two empty of twelve", () -> office("ABCDEFGHIJ..;ab"), DeskMoves::sort, NONE);
        leaves("eleven empty", () -> office("A...........;ab"), DeskMoves::sort, NONE);
        leaves("one empty of twelve", TWELVE, DeskMoves::sort, 2);
        says("SORT: 0 not all joined by DOORS; 1 some DESK without which others are not joined (or two DESKS); 2 a ring;");
        String[] offices = {"AB.;ab", "AB.;ab,bc", "AB.;ab,bc,ca", "ABC.;ab,bc,ca", "ABC.;ab,bc,ca,cd",
            "ABCDE.;ab,bc,ca,de,ef,fd", "ABCDE.;ab,bc,ca,de,ef,fd,cd", "ABCD.;ab,bc,ca,cd,de,ec",
            "ABCDEFGHIJK.;ab,bc,cd,de,ef,fg,gh,hi,ij,jk", "ABCDEFGHIJK.;ab,bc,cd,de,ef,fg,gh,hi,ij,jk,kl", RING12};
        int[] sorts = {0, 1, 2, 0, 1, 0, 1, 1, 0, 1, 2};
        for (int i = 0; i < offices.length; i++) {
            String s = offices[i];
            leaves(s, () -> office(s), DeskMoves::sort, sorts[i]);
        }
        says("3 a ring of six with a way of two between DESKS across (seven DESKS, eight DOORS)");
        leaves("it is", () -> office(THETA), DeskMoves::sort, 3);
        leaves("the other two across", () -> office("ABCDEF.;ab,bc,cd,de,ef,fa,cg,gf"), DeskMoves::sort, 3);
        String[] shapes = {"ab,bc,cd,de,ef,fa,ag,gd", "ab,bc,cd,de,ef,fa,ag,gc", "ab,bc,cd,de,ef,fg,ga,ad", "ab,bc,cd,de,ef,fg,ga,ac"};
        int[] kinds = {3, 4, 5, 5};
        for (int i = 0; i < shapes.length; i++) {
            for (int turn = 0; turn < 7; turn++) {
                String s = "ABCDEF.;" + turned(shapes[i], turn);
                answers(s, () -> office(s), DeskMoves::sort, kinds[i]);
            }
        }
        leaves("not across", () -> office("ABCDEF.;ab,bc,cd,de,ef,fa,ag,gc"), DeskMoves::sort, 4);
        leaves("beside", () -> office("ABCDEF.;ab,bc,cd,de,ef,fa,ag,gb"), DeskMoves::sort, 5);
        leaves("nine doors", () -> office(THETA + ",ad"), DeskMoves::sort, 5);
        leaves("a way of three", () -> office("ABCDEFG.;ab,bc,cd,de,ef,fa,ag,gh,hd"), DeskMoves::sort, 4);
        leaves("a way of one", () -> office("ABCDE.;ab,bc,cd,de,ef,fa,ad"), DeskMoves::sort, 4);
        leaves("a ring of five", () -> office("ABCDE.;ab,bc,cd,de,ea,af,fc"), DeskMoves::sort, 5);
        leaves("a ring of seven", () -> office("ABCDEF.;ab,bc,cd,de,ef,fg,ga"), DeskMoves::sort, 2);
        leaves("a ring of six and one apart", () -> office("ABCDEF.;ab,bc,cd,de,ef,fa,ad"), DeskMoves::sort, 0);
        leaves("a ring of six and one at its side", () -> office("ABCDEF.;ab,bc,cd,de,ef,fa,ag"), DeskMoves::sort, 1);
        says("4 of two colours (each DOOR between unlike ones); 5 any other");
        leaves("two by three", () -> office("ABCDE.;ab,bc,de,ef,ad,be,cf"), DeskMoves::sort, 4);
        leaves("with a door between alike ones", () -> office("ABCDE.;ab,bc,de,ef,ad,be,cf,ac"), DeskMoves::sort, 5);
        leaves("with the last door between unlike ones", () -> office(RING12 + ",il"), DeskMoves::sort, 4);
        leaves("with the last door between alike ones", () -> office(RING12 + ",jl"), DeskMoves::sort, 5);
        leaves("four with all doors", () -> office("ABC.;ab,bc,cd,da,ac,bd"), DeskMoves::sort, 5);
        leaves("four with five doors", () -> office("ABC.;ab,bc,cd,da,ac"), DeskMoves::sort, 5);
        answers("laws left out", () -> ruled(THETA, "y:0"), DeskMoves::sort, 3);
    }

    /** The same doors with each letter so many further on, of seven. */
    private static String turned(String doors, int turn) {
        StringBuilder s = new StringBuilder();
        for (char c : doors.toCharArray()) {
            s.append(c == ',' ? c : (char) ('a' + (c - 'a' + turn) % 7));
        }
        return s.toString();
    }

    private static void becoming() {
        promise = 26;
        says("NONE: no SORT, WISHES that are no such seating. HIDDEN: not told.");
        leaves("no sort", wished("A..;ab,bc,ca", "A.."), DeskMoves::can, NONE);
        leaves("nothing wished", TWO, DeskMoves::can, NONE);
        leaves("all but one wished", wished(RING, "AB. "), DeskMoves::can, NONE);
        leaves("all but the empty one wished", wished(RING, "AB C"), DeskMoves::can, NONE);
        leaves("the last one left out", wished(RING, "AB.."), DeskMoves::can, NONE);
        leaves("the first one left out", wished(RING, "BC.."), DeskMoves::can, NONE);
        leaves("all but one left out", wished(RING, "...C"), DeskMoves::can, NONE);
        leaves("none but empty ones", wished(RING, "...."), DeskMoves::can, NONE);
        leaves("all wished", wished(RING, "AB.C"), DeskMoves::can, 1);
        leaves("all of twelve but the last wished", wished(RING12, "ABCDEFGHIJK "), DeskMoves::can, NONE);
        leaves("all of twelve", wished(RING12, "ABCDEFGHIJK."), DeskMoves::can, 1);
        says("of SORT 2: whether CLERKS, going round the ring, are in one order");
        leaves("turned by one", wished(RING12, ".ABCDEFGHIJK"), DeskMoves::can, 1);
        leaves("turned half round", wished(RING12, "FGHIJK.ABCDE"), DeskMoves::can, 1);
        leaves("the empty one elsewhere", wished(RING12, "ABC.DEFGHIJK"), DeskMoves::can, 1);
        leaves("two changed", wished(RING12, "BACDEFGHIJK."), DeskMoves::can, 0);
        leaves("the other way round", wished(RING12, "KJIHGFEDCBA."), DeskMoves::can, 0);
        leaves("two in a ring of three", wished("AB.;ab,bc,ca", "BA."), DeskMoves::can, 1);
        leaves("three in a ring of four", wished(RING, "BA.C"), DeskMoves::can, 0);
        says("is even, if the EMPTY DESKS of both have one colour, odd, if not");
        String grid = "ABCDE.;ab,bc,de,ef,ad,be,cf";
        leaves("none", wished(grid, "ABCDE."), DeskMoves::can, 1);
        leaves("one, one colour", wished(grid, "BACDE."), DeskMoves::can, 0);
        leaves("two, one colour", wished(grid, "BCADE."), DeskMoves::can, 1);
        leaves("one, unlike colours", wished(grid, "ABCD.E"), DeskMoves::can, 1);
        leaves("two, unlike colours", wished(grid, "BACD.E"), DeskMoves::can, 0);
        leaves("two, one colour again", wished(grid, "ABC.DE"), DeskMoves::can, 1);
        leaves("three, one colour", wished(grid, "BAC.DE"), DeskMoves::can, 0);
        leaves("twelve desks", wished(RING12 + ",ad", "BACDEFGHIJK."), DeskMoves::can, 0);
        leaves("twelve desks", wished(RING12 + ",ad", "BADCEFGHIJK."), DeskMoves::can, 1);
        says("5: always;");
        leaves("twelve desks", wished(RING12 + ",ac", "BACDEFGHIJK."), DeskMoves::can, 1);
        leaves("four desks", wished("ABC.;ab,bc,cd,da,ac", "CBA."), DeskMoves::can, 1);
        says("of SORT 0, 1, 3 with no more than 8 DESKS: whether it is one of ALL (without a LAW); else it is not told");
        leaves("a row of eight", wished(ROW8, "ABCDEF.G"), DeskMoves::can, 1);
        leaves("a row of eight", wished(ROW8, "BACDEF.G"), DeskMoves::can, 0);
        leaves("a row of nine", wished(ROW9, "ABCDEFG.H"), DeskMoves::can, HIDDEN);
        leaves("a row of nine as it is", wished(ROW9, "ABCDEFGH."), DeskMoves::can, HIDDEN);
        leaves("eight apart", wished("ABCDEFG.;gh", "ABCDEF.G"), DeskMoves::can, 1);
        leaves("eight apart", wished("ABCDEFG.;gh", "ABCDE.FG"), DeskMoves::can, 0);
        leaves("nine apart", wished("ABCDEFGH.;hi", "ABCDEFG.H"), DeskMoves::can, HIDDEN);
        leaves("sort 3", wished(THETA, "BCDAEF."), DeskMoves::can, 1);
        leaves("sort 3", wished(THETA, "BACDEF."), DeskMoves::can, 0);
        leaves("without a law", () -> {
            DeskMoves x = ruled(ROW8, "y:0");
            wishes(x, "ABCDEF.G");
            return x;
        }, DeskMoves::can, 1);
    }

    private static void worths() {
        promise = 27;
        says("False: no such ones, out of bounds.");
        outside("worth", RICH, (x, v) -> one(x.worth(0, 1, v)), 0, 99, 0);
        outside("clerk", RICH, (x, c) -> one(x.worth(c, 1, 5)), 0, 2, 0);
        outside("desk", RICH, (x, d) -> one(x.worth(0, d, 5)), 0, 3, 0);
        outside("clerk of twelve", TWELVE, (x, c) -> one(x.worth(c, 1, 5)), 0, 10, 0);
        outside("desk of twelve", TWELVE, (x, d) -> one(x.worth(0, d, 5)), 0, 11, 0);
        int[] taken = {0, 1, 50, 98, 99};
        for (int v : taken) {
            answers("worth " + v, RICH, x -> 100 * one(x.worth(0, 1, v)) + x.seated(0), 100 + v);
        }
        answers("the last desk of the last clerk", TWELVE, x -> 100 * one(x.worth(10, 11, 99)) + x.best(NONE), 199);
        says("WORTH of a DESK to a CLERK (0 .. 99; 0 at first)");
        for (int c = 0; c < 11; c++) {
            int clerk = c;
            answers("at first", TWELVE, x -> x.seated(clerk), 0);
        }
        leaves("best at first", TWELVE, x -> x.best(NONE), 0);
    }

    private static void seating() {
        promise = 28;
        says("SEATED: one's own; all together (clerk NONE). NONE: no such one, no OFFICE.");
        outside("seated", RICH, (x, c) -> x.seated(c), NONE, 2, NONE);
        outside("seated of twelve", TWELVE, (x, c) -> x.seated(c), NONE, 10, NONE);
        leaves("all", RICH, x -> x.seated(NONE), 9);
        leaves("the first", RICH, x -> x.seated(0), 9);
        leaves("the last", RICH, x -> x.seated(2), 0);
        answers("the most", TWELVE, x -> {
            for (int c = 0; c < 11; c++) {
                x.worth(c, c, 99);
            }
            return x.seated(NONE) * 100 + x.seated(10);
        }, 108999);
    }

    private static void bestSeating() {
        promise = 29;
        says("BEST: the DESK of a CLERK; the sum (clerk NONE). NONE: no such one, no OFFICE.");
        outside("best", RICH, (x, c) -> x.best(c), NONE, 2, NONE);
        outside("best of twelve", TWELVE, (x, c) -> x.best(c), NONE, 10, NONE);
        leaves("the sum", RICH, x -> x.best(NONE), 24);
        leaves("the first", RICH, x -> x.best(0), 1);
        leaves("the last", RICH, x -> x.best(2), 2);
        says("of several that in which the lowest CLERK has the lowest DESK, then the next one");
        for (int c = 0; c < 11; c++) {
            int clerk = c;
            answers("all alike", TWELVE, x -> x.best(clerk), clerk);
        }
        answers("the greatest sum", TWELVE, x -> {
            for (int c = 0; c < 11; c++) {
                for (int d = 0; d < 12; d++) {
                    x.worth(c, d, 99);
                }
            }
            return 100 * x.best(NONE) + x.best(10);
        }, 108910);
        answers("the lowest clerk first", () -> office("AB.;ab"), x -> {
            x.worth(0, 1, 5);
            x.worth(0, 2, 5);
            x.worth(1, 1, 5);
            x.worth(1, 2, 5);
            return 10 * x.best(0) + x.best(1);
        }, 12);
    }

    private static void gaining() {
        promise = 30;
        says("GAINS: how much (0), the DESK (1). NONE: no such ones.");
        for (int what = 0; what < 2; what++) {
            int w = what;
            outside("clerk", RICH, (x, c) -> x.gains(c, w), 0, 2, NONE);
            outside("clerk of two", TWO, (x, c) -> x.gains(c, w), 0, 0, NONE);
        }
        outside("what", RICH, (x, what) -> x.gains(0, what), 0, 1, NONE);
        leaves("nothing", TWO, x -> x.gains(0, 0), 0);
        leaves("of several the lowest", TWO, x -> x.gains(0, 1), 0);
        leaves("of several the lowest of twelve", TWELVE, x -> x.gains(10, 1), 0);
        says("CLERK k tells 99 for one DESK and 0 for all others (all others tell the truth)");
        // A tells 99 for a; B's truth is as told and one less and as much.
        int[] truth = {98, 99};
        int[] gains = {7, 0};
        for (int i = 0; i < truth.length; i++) {
            int t = truth[i];
            Make make = () -> {
                DeskMoves x = office("BA.;ab");
                x.worth(1, 0, 7);
                x.worth(0, 0, t);
                return x;
            };
            leaves("against " + t, make, x -> x.gains(1, 0), gains[i]);
            leaves("against " + t, make, x -> x.gains(1, 1), 0);
        }
        answers("all that can be gained", () -> office("AB.;ab"), x -> {
            x.worth(0, 0, 98);
            x.worth(1, 0, 99);
            return x.gains(0, 0);
        }, 98);
    }

    private static void exchanging() {
        promise = 31;
        says("EXCHANGES: the DESK a CLERK gets. NONE: no such one.");
        outside("clerk", RICH, (x, c) -> x.exchange(c), 0, 2, NONE);
        outside("clerk of twelve", TWELVE, (x, c) -> x.exchange(c), 0, 10, NONE);
        for (int c = 0; c < 11; c++) {
            int clerk = c;
            answers("of several its own", TWELVE, x -> x.exchange(clerk), clerk);
        }
        Make ring = () -> {
            DeskMoves x = office(RING12);
            for (int c = 0; c < 11; c++) {
                x.worth(c, (c + 1) % 11, 1);
            }
            return x;
        };
        for (int c = 0; c < 11; c++) {
            int clerk = c;
            answers("a ring of eleven", ring, x -> x.exchange(clerk), (clerk + 1) % 11);
        }
        Make chain = () -> {
            DeskMoves x = office(RING12);
            for (int c = 0; c < 11; c++) {
                x.worth(c, c + 1, 1);
            }
            return x;
        };
        for (int c = 0; c < 11; c++) {
            int clerk = c;
            answers("eleven, one behind the other", chain, x -> x.exchange(clerk), clerk + 1);
        }
        says("(of several its own, then the lowest)");
        answers("its own", () -> office("AB..;ab"), x -> {
            for (int d = 0; d < 4; d++) {
                x.worth(1, d, 3);
            }
            return x.exchange(1);
        }, 1);
        answers("the lowest", () -> office("AB..;ab"), x -> {
            x.worth(1, 3, 3);
            x.worth(1, 2, 3);
            return x.exchange(1);
        }, 2);
        says("else those who point to one another in a ring get what they point to");
        answers("one who is content", () -> office("AB.;ab"), x -> {
            x.worth(0, 1, 9);
            x.worth(1, 1, 9);
            return 10 * x.exchange(0) + x.exchange(1);
        }, 1);
        answers("two, and one who is not of them", () -> office("ABC.;ab"), x -> {
            x.worth(0, 1, 9);
            x.worth(1, 2, 9);
            x.worth(2, 1, 9);
            return 100 * x.exchange(0) + 10 * x.exchange(1) + x.exchange(2);
        }, 21);
        says("the lowest of these CLERKS gets that");
        answers("two point to the empty one", () -> office("BA.;ab"), x -> {
            x.worth(0, 2, 1);
            x.worth(1, 2, 99);
            return 10 * x.exchange(0) + x.exchange(1);
        }, 20);
    }

    private static void agreeing() {
        promise = 32;
        says("NONE: no such one, no OFFICE.");
        Make two = () -> {
            DeskMoves x = office("AB.;ab");
            x.worth(0, 1, 1);
            x.worth(1, 0, 1);
            return x;
        };
        outside("pair", two, (x, i) -> x.agree(i), NONE, 0, NONE);
        leaves("one", two, x -> x.agree(NONE), 1);
        leaves("the first", two, x -> x.agree(0), 1);
        leaves("none", TWO, x -> x.agree(NONE), 0);
        outside("none", TWO, (x, i) -> x.agree(i), NONE, NONE, NONE);
        Make all = () -> {
            DeskMoves x = office(RING12);
            for (int c = 0; c < 11; c++) {
                for (int d = 0; d < 11; d++) {
                    x.worth(c, d, c == d ? 0 : 1);
                }
            }
            return x;
        };
        answers("all pairs of eleven", all, x -> x.agree(NONE), 55);
        answers("the first of eleven", all, x -> x.agree(0), 1);
        answers("the tenth", all, x -> x.agree(9), 10);
        answers("the eleventh", all, x -> x.agree(10), 18);
        answers("the last of eleven", all, x -> x.agree(54), 16 * 9 + 10);
        answers("behind the last", all, x -> x.agree(55), NONE);
        says("pairs who would both have more by exchanging DESKS");
        int[][] worths = {{0, 0}, {0, 1}, {1, 0}, {1, 1}, {4, 4}, {4, 5}, {5, 4}};
        for (int[] w : worths) {
            answers(w[0] + " and " + w[1], () -> office("AB.;ab"), x -> {
                x.worth(0, 0, w[0]);
                x.worth(0, 1, w[1]);
                x.worth(1, 0, 99);
                return x.agree(NONE);
            }, w[1] > w[0] ? 1 : 0);
            answers("the other's " + w[0] + " and " + w[1], () -> office("AB.;ab"), x -> {
                x.worth(1, 1, w[0]);
                x.worth(1, 0, w[1]);
                x.worth(0, 1, 99);
                return x.agree(NONE);
            }, w[1] > w[0] ? 1 : 0);
        }
    }

    private static void voting() {
        promise = 33;
        says("HIDDEN: no such ones, alike, both EMPTY.");
        outside("one", RICH, (x, d) -> x.vote(d, 0), 0, 3, HIDDEN);
        outside("other", RICH, (x, d) -> x.vote(0, d), 0, 3, HIDDEN);
        outside("one of twelve", TWELVE, (x, d) -> x.vote(d, 0), 0, 11, HIDDEN);
        outside("other of twelve", TWELVE, (x, d) -> x.vote(0, d), 0, 11, HIDDEN);
        for (int d = 0; d < 4; d++) {
            int same = d;
            leaves("alike", RICH, x -> x.vote(same, same), HIDDEN);
        }
        Make empty = () -> office("A..;ab,bc");
        leaves("both empty", empty, x -> x.vote(1, 2), HIDDEN);
        leaves("both empty", empty, x -> x.vote(2, 1), HIDDEN);
        leaves("one empty", empty, x -> x.vote(0, 2), 0);
        leaves("the other empty", empty, x -> x.vote(1, 0), 0);
        says("how many of the other CLERKS would have fewer BESIDE them with whom they QUARREL than now, less how many would have more");
        Make star = () -> office("ABCDEFGHIJK.;ab,ac,ad,ae,af,ag,ah,ai,aj,ak;AB,AC,AD,AE,AF,AG,AH,AI,AJ,AK");
        leaves("all the others", star, x -> x.vote(0, 11), 10);
        leaves("all but one", star, x -> x.vote(0, 1), 9);
        leaves("as many as now", star, x -> x.vote(1, 2), 0);
        Make apart = () -> office(".BCDEFGHIJKA;ab,ac,ad,ae,af,ag,ah,ai,aj,ak;AB,AC,AD,AE,AF,AG,AH,AI,AJ,AK");
        leaves("all the others have more", apart, x -> x.vote(11, 0), -10);
        leaves("nothing is changed", apart, x -> x.vote(0, 1), 0);
        leaves("one fewer, one more", () -> office("ABCD.;ab,cd;AB,AD"), x -> x.vote(0, 2), 0);
    }

    private static void images() {
        promise = 34;
        says("An IMAGE (instead of the one ahead): MOVES in the DIARY. NONE: no OFFICE.");
        leaves("no office", FRESH, DeskMoves::image, NONE);
        int[] lengths = {0, 1, 99, 100, 101, 130};
        for (int moves : lengths) {
            int kept = Math.min(moves, 100);
            answers("of " + moves, walked(moves), DeskMoves::image, kept);
            due("back at once after " + moves, alike(() -> {
                DeskMoves x = walked(moves).make();
                x.image();
                return x;
            }, () -> {
                DeskMoves x = walked(moves).make();
                x.image();
                for (int i = 0; i < 5; i++) {
                    x.move(0, (moves + 1 + i) % 7);
                }
                x.undo();
                x.back();
                return x;
            }), true);
        }
        answers("instead of the one ahead", RICH, x -> 10 * x.image() + x.undo() * 100 + x.back(), 233);
        answers("the one ahead without", RICH, x -> 100 * x.undo() + x.back(), 201);
    }

    private static void goingBack() {
        promise = 35;
        says("BACK: MOVES in the DIARY. NONE: no IMAGE of this OFFICE.");
        leaves("no image", TWO, DeskMoves::back, NONE);
        leaves("no image of nine", () -> office("ABCDEFGH.;hi"), DeskMoves::back, NONE);
        leaves("an image of the office ahead", () -> {
            DeskMoves x = RICH.make();
            text(x, 0, "AB.C;ab,bc2,cd,da3;AB");
            return x;
        }, DeskMoves::back, NONE);
        answers("a refused office keeps it", RICH, x -> 10 * text(x, 0, "AB;ab") + x.back(), -9);
        answers("the image", RICH, x -> 10 * x.back() + x.clerk(1, 0), 12);
        answers("it stays", RICH, x -> {
            x.back();
            x.undo();
            return x.back();
        }, 1);
        due("ranks, papers, wishes, worths, laws, plan and tape are not of it", alike(() -> {
            DeskMoves x = RICH.make();
            x.back();
            return x;
        }, () -> {
            DeskMoves x = RICH.make();
            x.undo();
            x.undo();
            return x;
        }), true);
    }

    private static void telling() {
        promise = 36;
        says("HIDDEN for others.");
        outside("told", RICH, (x, what) -> x.told(what), 0, 6, HIDDEN);
        outside("told of none", FRESH, (x, what) -> x.told(what), 0, 6, HIDDEN);
        int[] rich = {4, 7, 2, 7, 3, 3, 1};
        int[] two = {2, 1, 0, 0, NONE, 0, NONE};
        int[] twelve = {12, 2047, 0, 0, NONE, 0, NONE};
        for (int what = 0; what < 7; what++) {
            int w = what;
            leaves("told " + what, RICH, x -> x.told(w), rich[w]);
            leaves("told " + what, TWO, x -> x.told(w), two[w]);
            leaves("told " + what, TWELVE, x -> x.told(w), twelve[w]);
        }
        answers("the last clerk's bit", () -> office("L.;ab"), x -> x.told(1), 2048);
        answers("a full tape", taped(160), x -> x.told(3), 160);
        answers("four laws", lawful(4, ""), x -> 10 * x.told(2) + x.told(6), 43);
    }

    // ---- the last of 512 calls

    private static final int CALLS = 512;

    /** Calls that leave all as it was, some by refusal, with searches in between. */
    private static List<Call> churn() {
        List<Call> calls = new ArrayList<>();
        calls.add(x -> x.move(1, 3));
        calls.add(x -> x.all(0));
        calls.add(DeskMoves::undo);
        calls.add(x -> one(x.set(0, 1, 5)));
        calls.add(DeskMoves::holds);
        calls.add(x -> one(x.set(0, 1, 1)));
        calls.add(x -> one(x.wish(1, 0)));
        calls.add(x -> x.fewest(NONE));
        calls.add(x -> one(x.wish(1, NONE)));
        calls.add(x -> one(x.law(0)));
        calls.add(DeskMoves::cheapest);
        calls.add(x -> one(x.law(1)));
        calls.add(x -> one(x.worth(2, 3, 50)));
        calls.add(x -> x.gains(1, 0));
        calls.add(x -> one(x.worth(2, 3, 0)));
        calls.add(x -> feedSome(x, 20));
        calls.add(x -> x.fault(0));
        calls.add(x -> x.text(0));
        calls.add(x -> one(x.end(7)));
        calls.add(x -> x.text(2));
        calls.add(x -> x.judge(7, 1));
        calls.add(DeskMoves::can);
        calls.add(x -> x.exchange(0));
        calls.add(x -> x.vote(0, 1));
        calls.add(x -> desk(x, 4));
        return calls;
    }

    private static void feedCalls(List<Call> calls, String s) {
        for (int from = 0; from < s.length(); from += 20) {
            String part = s.substring(from, Math.min(s.length(), from + 20));
            calls.add(x -> {
                feed(x, part);
                return 0;
            });
        }
    }

    /** The calls that make the rich object, one by one. */
    private static List<Call> richCalls() {
        List<Call> calls = new ArrayList<>();
        feedCalls(calls, "AB.C;ab,bc2,cd,da3;AB");
        calls.add(x -> x.text(0));
        calls.add(x -> one(x.set(0, 0, 4)));
        calls.add(x -> one(x.set(1, 1, 3)));
        calls.add(x -> one(x.set(2, 0, 7)));
        calls.add(x -> one(x.wish(0, 1)));
        calls.add(x -> one(x.wish(3, 12)));
        calls.add(x -> one(x.worth(0, 0, 5)));
        calls.add(x -> one(x.worth(0, 1, 9)));
        calls.add(x -> one(x.worth(1, 0, 8)));
        calls.add(x -> one(x.worth(1, 3, 4)));
        calls.add(x -> one(x.worth(2, 2, 7)));
        feedCalls(calls, "y:2-q");
        calls.add(x -> x.text(1));
        feedCalls(calls, "y:9-l*p");
        calls.add(x -> x.text(1));
        calls.add(x -> x.move(1, 2));
        calls.add(DeskMoves::image);
        calls.add(x -> x.move(0, 1));
        calls.add(x -> x.move(2, 0));
        calls.add(x -> one(x.law(1)));
        feedCalls(calls, "Bd,Ac,Ab");
        calls.add(x -> x.text(2));
        feedCalls(calls, "y:1=1?3");
        return calls;
    }

    /** The rich object after 511 calls. */
    private static DeskMoves old() {
        DeskMoves x = new DeskMoves();
        List<Call> calls = richCalls();
        List<Call> round = churn();
        while (calls.size() + round.size() < CALLS) {
            calls.addAll(round);
        }
        while (calls.size() < CALLS - 1) {
            calls.add(y -> y.told(0));
        }
        for (Call call : calls) {
            call.ask(x);
        }
        return x;
    }

    private static void lastCalls() {
        promise = 1;
        says("An object is used for at most 512 calls after it has been made");
        Call[] last = {x -> feedSome(x, 20), x -> one(x.end(7)), x -> one(x.end(8)), x -> x.fault(0), x -> x.fault(1),
            x -> x.text(0), x -> x.text(1), x -> x.text(2), x -> desk(x, 0), x -> desk(x, 4), x -> x.door(0, 3),
            x -> x.quarrel(0, 1), x -> one(x.set(0, 0, 9)), x -> one(x.set(0, 0, 10)), x -> x.clerk(1, 4),
            x -> one(x.law(0)), x -> one(x.law(2)), x -> x.let(1, 3), x -> x.move(1, 3), x -> x.move(0, 3),
            DeskMoves::undo, x -> x.diary(2), x -> x.diary(3), x -> x.judge(1, 0), x -> x.judge(4, 2),
            x -> one(x.wish(1, 2)), x -> one(x.wish(1, 1)), DeskMoves::done, x -> x.fewest(NONE), x -> x.fewest(0),
            DeskMoves::cheapest, x -> x.all(0), x -> x.all(1), x -> x.count(3), x -> x.ill(0), x -> x.ill(1), x -> x.ill(2),
            DeskMoves::holds, DeskMoves::sort, DeskMoves::can, x -> one(x.worth(0, 0, 99)), x -> x.seated(NONE),
            x -> x.best(NONE), x -> x.best(1), x -> x.gains(1, 0), x -> x.gains(1, 1), x -> x.exchange(1),
            x -> x.agree(NONE), x -> x.agree(0), x -> x.vote(0, 1), DeskMoves::image, DeskMoves::back,
            x -> x.told(1), x -> x.told(3)};
        for (int i = 0; i < last.length; i++) {
            due("the 512th call, number " + i, last[i].ask(old()), last[i].ask(RICH.make()));
        }
        longWalk();
        longSearch();
    }

    /** 400 moves, then all that the diary keeps undone, up to the 512th call. */
    private static void longWalk() {
        DeskMoves x = new DeskMoves();
        feed(x, "A......;ab,bc,cd,de,ef,fg,ga");
        x.text(0);
        for (int i = 1; i <= 407; i++) {
            due("move " + i, x.move(0, i % 7), 1);
        }
        for (int left = 99; left >= 0; left--) {
            due("undo", x.undo(), left);
        }
        due("undo", x.undo(), NONE);
        due("where it sits, the 512th call", x.clerk(0, 0), 307 % 7);
    }

    /** Eight desks, searched anew after each of 160 changes. */
    private static void longSearch() {
        DeskMoves x = office("ABCDEFG.;ab,bc,cd,de,ef,fg,gh,ha,ad");
        for (int i = 0; i < 160; i++) {
            due("rank", x.set(i % 7, i % 2, i % 10), true);
            due("all", x.all(0), 20160);
            due("count", x.count(1), 2);
        }
        due("far", x.all(1), office("ABCDEFG.;ab,bc,cd,de,ef,fg,gh,ha,ad").all(1));
    }

    private static void readDocument() {
        String shared = System.getProperty("deskmoves.shared", "../shared");
        Path path = Path.of(shared, "DOC.md");
        if (Files.isReadable(path)) {
            try {
                document = Files.readString(path, StandardCharsets.UTF_8).replaceAll("\\s+", " ");
            } catch (java.io.IOException e) {
                document = "";
            }
        }
    }

    /** What a promise says is refused must have been quoted under it. */
    private static void refusalsAreQuoted() {
        String[] sections = document.split("## Promise ");
        for (int i = 1; i < sections.length; i++) {
            String section = sections[i].replaceAll("## Not promised.*", "");
            String number = section.substring(0, section.indexOf(':'));
            Matcher m = Pattern.compile("(NONE|HIDDEN|False|-2|NoSuchElementException)(:| likewise| for)[^.]*\\.").matcher(section);
            while (m.find()) {
                String refusal = m.group();
                boolean quoted = QUOTED.stream().anyMatch(q -> q.startsWith(number + ":") && q.contains(refusal));
                if (!quoted) {
                    wrong++;
                    System.out.println("promise " + number + ": no test of '" + refusal + "'");
                }
            }
        }
    }

    public static void main(String[] args) {
        readDocument();
        officeBounds();
        lawBounds();
        numberBounds();
        letterBounds();
        blanks();
        newObject();
        feeding();
        ending();
        faults();
        texts();
        desks();
        doors();
        quarrels();
        setting();
        clerks();
        laws();
        letting();
        moving();
        undoing();
        diaries();
        judging();
        wishing();
        doing();
        fewestMoves();
        cheapestMoves();
        comingToAll();
        counting();
        illness();
        holding();
        growing();
        sorting();
        becoming();
        worths();
        seating();
        bestSeating();
        gaining();
        exchanging();
        agreeing();
        voting();
        images();
        goingBack();
        telling();
        lastCalls();
        refusalsAreQuoted();
        System.out.println(sentences + " sentences, " + asked + " answers asked, " + wrong + " are not as due");
        if (wrong != 0) {
            System.exit(1);
        }
    }
}
