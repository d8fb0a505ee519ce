import java.util.ArrayDeque;
import java.util.ArrayList;
import java.util.Arrays;
import java.util.HashMap;
import java.util.HashSet;
import java.util.List;
import java.util.Map;
import java.util.PriorityQueue;
import java.util.Random;
import java.util.Set;
import java.util.TreeMap;

/**
 * Runs of drawn calls (always the same ones), answered by the class and by a second, naive
 * writing of the document that shares no way of working with it.
 */
public final class OracleTests {
    static final int NONE = -1;
    static final int HIDDEN = -1000000;
    static final int THROWN = -7777777;

    private static int wrong = 0;
    private static long calls = 0;

    public static void main(String[] args) {
        int runs = args.length > 0 ? Integer.parseInt(args[0]) : 1500;
        int first = args.length > 1 ? Integer.parseInt(args[1]) : 1;
        for (int seed = first; seed < first + runs && wrong < 20; seed++) {
            new Run(seed).go();
        }
        System.out.println(calls + " calls compared, " + wrong + " answers are not as due");
        if (wrong != 0) {
            System.exit(1);
        }
    }

    /** One run: a new object, and what is drawn for it. */
    static final class Run {
        final int seed;
        final Random random;
        final DeskMoves x = new DeskMoves();
        final Naive n = new Naive();
        final StringBuilder log = new StringBuilder();
        int made = 0;

        Run(int seed) {
            this.seed = seed;
            this.random = new Random(seed);
        }

        int draw(int bound) {
            return random.nextInt(bound);
        }

        int draw(int low, int high) {
            return low + random.nextInt(high - low + 1);
        }

        void due(String call, long got, long want) {
            calls++;
            made++;
            log.append("  ").append(call).append(" = ").append(got).append('\n');
            if (got != want) {
                wrong++;
                System.out.println("run " + seed + ": " + call + " answered " + got + ", due is " + want);
                if (wrong <= 3) {
                    System.out.println(log);
                }
            }
        }

        void go() {
            if (seed % 12 == 0) {
                walk();
                return;
            }
            if (draw(8) == 0) {
                anyCalls(10);
            }
            int offices = draw(1, 3);
            for (int i = 0; i < offices && made < 400; i++) {
                feed(officeText(draw(10) == 0));
                due("fault(0)", x.fault(0), n.fault(0));
                due("text(0)", x.text(0), n.text(0));
                tellMuch();
                anyCalls(draw(20, 110));
            }
        }

        /** Up to the last of 512 calls: far more moves than the diary keeps, some undone, some by an image. */
        void walk() {
            feed(officeText(false));
            due("text(0)", x.text(0), n.text(0));
            while (made < 512) {
                int which = draw(60);
                int i = draw(97, 101);
                switch (which) {
                    case 0: due("image()", x.image(), n.image()); break;
                    case 1: due("back()", x.back(), n.back()); break;
                    case 2: case 3: case 4: due("undo()", x.undo(), n.undo()); break;
                    case 5: case 6: case 7: due("diary(" + i + ")", x.diary(i), n.diary(i)); break;
                    case 8: due("diary(0)", x.diary(0), n.diary(0)); break;
                    case 9: due("told(5)", x.told(5), n.told(5)); break;
                    case 10: due("fewest(-1)", x.fewest(-1), n.fewest(-1)); break;
                    case 11: wish(); break;
                    default: step(); break;
                }
            }
        }

        void step() {
            int c = someClerk();
            int d = someDesk();
            for (int tries = 0; tries < 200 && n.let(c, d) != 1; tries++) {
                c = draw(12);
                d = draw(12);
            }
            due("move(" + c + ", " + d + ")", x.move(c, d), n.move(c, d));
        }

        void tellMuch() {
            if (n.seats == null) {
                return;
            }
            int laws = draw(3);
            for (int i = 0; i < laws; i++) {
                feed(lawText(draw(12) == 0));
                due("fault(1)", x.fault(1), n.fault(1));
                due("text(1)", x.text(1), n.text(1));
            }
            if (draw(3) != 0) {
                int l = n.laws.size() - 1;
                due("law(" + l + ")", one(x.law(l)), one(n.law(l)));
            }
            for (int i = 0; i < 8; i++) {
                set();
            }
            int top = draw(2) == 0 ? 3 : 99;
            for (int c = 0; c < 12; c++) {
                for (int d = 0; d < n.seats.length(); d++) {
                    if (n.place(c) >= 0 && draw(4) != 0 && made < 200) {
                        int v = draw(0, top);
                        due("worth(" + c + ", " + d + ", " + v + ")", one(x.worth(c, d, v)), one(n.worth(c, d, v)));
                    }
                }
            }
        }

        void anyCalls(int number) {
            for (int i = 0; i < number && made < 500; i++) {
                anyCall(draw(40));
            }
        }

        int someClerk() {
            if (n.seats != null && draw(5) != 0) {
                char who = n.seats.charAt(draw(n.seats.length()));
                return who == '.' ? draw(12) : who - 'A';
            }
            return draw(3) == 0 ? odd() : draw(12);
        }

        int someDesk() {
            return draw(12) == 0 ? odd() : draw(0, n.seats == null ? 3 : n.seats.length() - 1);
        }

        int odd() {
            int[] odd = {-1, -2, 12, 13, 31, 32, 33, 64, 1000, Integer.MAX_VALUE, Integer.MIN_VALUE, 60, 61, 11, 7, 8};
            return odd[draw(odd.length)];
        }

        static int one(boolean b) {
            return b ? 1 : 0;
        }

        void set() {
            int c = someClerk();
            int what = draw(10) == 0 ? odd() : draw(2);
            int v = draw(10) == 0 ? odd() : draw(0, 9);
            due("set(" + c + ", " + what + ", " + v + ")", one(x.set(c, what, v)), one(n.set(c, what, v)));
        }

        void move() {
            int c = someClerk();
            int d = someDesk();
            if (n.seats != null && draw(3) != 0) {
                for (int tries = 0; tries < 50 && n.let(c, d) != 1; tries++) {
                    c = draw(12);
                    d = draw(n.seats.length());
                }
            }
            due("let(" + c + ", " + d + ")", x.let(c, d), n.let(c, d));
            due("move(" + c + ", " + d + ")", x.move(c, d), n.move(c, d));
        }

        void plan() {
            StringBuilder s = new StringBuilder();
            int moves = draw(15) == 0 ? draw(38, 43) : draw(1, 6);
            String keep = n.seats;
            for (int i = 0; i < moves; i++) {
                int c = draw(12);
                int d = draw(12);
                int most = keep == null || draw(9) == 0 ? 0 : 200;
                for (int tries = 0; tries < most && n.let(c, d) != 1; tries++) {
                    c = draw(12);
                    d = draw(12);
                }
                if (keep != null && n.let(c, d) == 1) {
                    n.seats = Naive.moved(n.seats, c, d);
                }
                s.append(i > 0 ? "," : "").append((char) ('A' + c)).append((char) ('a' + d));
            }
            n.seats = keep;
            feed(spoiled(s.toString(), draw(6) == 0));
            due("fault(2)", x.fault(2), n.fault(2));
            due("text(2)", x.text(2), n.text(2));
            for (int rules = 0; rules < 8; rules++) {
                for (int what = 0; what < 3; what++) {
                    if (draw(3) == 0) {
                        due("judge(" + rules + ", " + what + ")", x.judge(rules, what), n.judge(rules, what));
                    }
                }
            }
        }

        void wish() {
            int d = someDesk();
            int c = draw(4) == 0 ? 12 : draw(4) == 0 ? NONE : someClerk();
            due("wish(" + d + ", " + c + ")", one(x.wish(d, c)), one(n.wish(d, c)));
        }

        /** Wishes for all desks, a seating if it is lucky. */
        void wishAll() {
            if (n.seats == null) {
                return;
            }
            List<Integer> who = new ArrayList<>();
            for (int d = 0; d < n.seats.length(); d++) {
                due("wish(" + d + ", -1)", one(x.wish(d, -1)), one(n.wish(d, -1)));
                who.add(n.seats.charAt(d) == '.' ? 12 : n.seats.charAt(d) - 'A');
            }
            int swaps = draw(5);
            for (int i = 0; i < swaps; i++) {
                java.util.Collections.swap(who, draw(who.size()), draw(who.size()));
            }
            if (draw(4) == 0) {
                java.util.Collections.rotate(who, draw(who.size()));
            }
            for (int d = 0; d < who.size(); d++) {
                due("wish(" + d + ", " + who.get(d) + ")", one(x.wish(d, who.get(d))), one(n.wish(d, who.get(d))));
            }
            due("can()", x.can(), n.can());
        }

        void anyCall(int which) {
            int a = draw(20) == 0 ? odd() : draw(-1, 4);
            int c = someClerk();
            int d = someDesk();
            int e = someDesk();
            switch (which) {
                case 0: due("told(" + a + ")", x.told(a), n.told(a)); break;
                case 1: due("told(" + (a + 2) + ")", x.told(a + 2), n.told(a + 2)); break;
                case 2: due("desk(" + d + ")", deskOf(d), n.desk(d)); break;
                case 3: due("door(" + d + ", " + e + ")", x.door(d, e), n.door(d, e)); break;
                case 4: { int o = someClerk(); due("quarrel(" + c + ", " + o + ")", x.quarrel(c, o), n.quarrel(c, o)); break; }
                case 5: set(); break;
                case 6: due("clerk(" + c + ", " + a + ")", x.clerk(c, a), n.clerk(c, a)); break;
                case 7: { int l = draw(-1, Math.max(1, n.laws.size())); due("law(" + l + ")", one(x.law(l)), one(n.law(l))); break; }
                case 8: due("let(" + c + ", " + d + ")", x.let(c, d), n.let(c, d)); break;
                case 9: case 10: case 11: move(); break;
                case 12: due("undo()", x.undo(), n.undo()); break;
                case 13: due("diary(" + a + ")", x.diary(a), n.diary(a)); break;
                case 14: plan(); break;
                case 15: due("judge(" + d + ", " + a + ")", x.judge(d, a), n.judge(d, a)); break;
                case 16: case 17: wish(); break;
                case 18: due("done()", x.done(), n.done()); break;
                case 19: case 20: due("fewest(" + a + ")", x.fewest(a), n.fewest(a)); break;
                case 21: due("cheapest()", x.cheapest(), n.cheapest()); break;
                case 22: due("all(" + a + ")", x.all(a), n.all(a)); break;
                case 23: { int k = draw(9) == 0 ? odd() : draw(0, 30); due("count(" + k + ")", x.count(k), n.count(k)); break; }
                case 24: due("ill(" + c + ")", x.ill(c), n.ill(c)); break;
                case 25: due("holds()", x.holds(), n.holds()); break;
                case 26: due("sort()", x.sort(), n.sort()); break;
                case 27: wishAll(); break;
                case 28: { int v = draw(9) == 0 ? odd() : draw(0, 99); due("worth(" + c + ", " + d + ", " + v + ")", one(x.worth(c, d, v)), one(n.worth(c, d, v))); break; }
                case 29: due("seated(" + c + ")", x.seated(c), n.seated(c)); break;
                case 30: due("best(" + c + ")", x.best(c), n.best(c)); due("best(-1)", x.best(-1), n.best(-1)); break;
                case 31: due("gains(" + c + ", " + a + ")", x.gains(c, a), n.gains(c, a)); break;
                case 32: due("exchange(" + c + ")", x.exchange(c), n.exchange(c)); break;
                case 33: due("agree(" + a + ")", x.agree(a), n.agree(a)); break;
                case 34: due("vote(" + d + ", " + e + ")", x.vote(d, e), n.vote(d, e)); break;
                case 35: due("image()", x.image(), n.image()); break;
                case 36: due("back()", x.back(), n.back()); break;
                case 37: due("can()", x.can(), n.can()); break;
                case 38: strayText(); break;
                default: due("seated(-1)", x.seated(-1), n.seated(-1)); break;
            }
        }

        int deskOf(int d) {
            try {
                return x.desk(d);
            } catch (java.util.NoSuchElementException e) {
                return THROWN;
            }
        }

        void strayText() {
            int sort = draw(3);
            String s = sort == 0 ? officeText(true) : sort == 1 ? lawText(draw(2) == 0) : "Ab,Bc";
            feed(s);
            for (int i = -1; i < 4; i++) {
                due("fault(" + i + ")", x.fault(i), n.fault(i));
            }
            int cut = draw(-1, n.tape.length() + 1);
            due("end(" + cut + ")", one(x.end(cut)), one(n.end(cut)));
            due("fault(" + sort + ")", x.fault(sort), n.fault(sort));
            if (draw(2) == 0) {
                due("text(" + sort + ")", x.text(sort), n.text(sort));
            }
            due("told(3)", x.told(3), n.told(3));
        }

        void feed(String s) {
            if (draw(30) != 0) {
                due("end(0)", one(x.end(0)), one(n.end(0)));
            }
            int at = 0;
            while (at < s.length()) {
                int[] five = new int[5];
                for (int i = 0; i < 20; i++) {
                    boolean gap = draw(40) == 0;
                    if (!gap && at < s.length()) {
                        five[i / 4] |= (s.charAt(at) & 255) << 24 - i % 4 * 8;
                        at++;
                    }
                }
                String call = "feed" + Arrays.toString(five) + " to " + s;
                due(call, x.feed(five[0], five[1], five[2], five[3], five[4]), n.feed(five));
            }
        }

        String spoiled(String s, boolean spoil) {
            StringBuilder b = new StringBuilder(s);
            if (draw(4) == 0) {
                for (int i = 0; i < 5; i++) {
                    b.insert(draw(b.length() + 1), ' ');
                }
            }
            for (int i = 0; spoil && i < 2 && b.length() > 0; i++) {
                String signs = "AaBbCcLlMmyz.;:,?!()[]|&=<>+-*/0123456789 cftlrpbq";
                char sign = draw(9) == 0 ? (char) draw(1, 255) : signs.charAt(draw(signs.length()));
                int at = draw(b.length());
                switch (draw(3)) {
                    case 0: b.setCharAt(at, sign); break;
                    case 1: b.insert(at, sign); break;
                    default: b.deleteCharAt(at); break;
                }
            }
            return b.toString();
        }

        String officeText(boolean spoil) {
            int desks = draw(12) == 0 ? draw(8, 12) : draw(2, 6);
            if (draw(40) == 0) {
                desks = 7;
            }
            int empties = draw(3) != 0 ? 1 : draw(1, desks - 1);
            List<Character> row = new ArrayList<>();
            List<Character> letters = new ArrayList<>();
            for (char c = 'A'; c <= 'L'; c++) {
                letters.add(c);
            }
            if (draw(2) == 0) {
                java.util.Collections.shuffle(letters, random);
            }
            for (int d = 0; d < desks; d++) {
                row.add(d < empties ? '.' : letters.get(d));
            }
            java.util.Collections.shuffle(row, random);
            StringBuilder s = new StringBuilder();
            for (char c : row) {
                s.append(c);
            }
            s.append(';').append(doors(desks));
            StringBuilder quarrels = new StringBuilder();
            for (int i = 0; i < desks; i++) {
                for (int j = i + 1; j < desks; j++) {
                    if (row.get(i) != '.' && row.get(j) != '.' && draw(3) == 0) {
                        quarrels.append(quarrels.length() > 0 ? "," : ";").append(row.get(i)).append(row.get(j));
                    }
                }
            }
            return spoiled(s.append(quarrels).toString(), spoil);
        }

        String doors(int desks) {
            TreeMap<String, String> pairs = new TreeMap<>();
            int shape = draw(6);
            for (int i = 0; i < desks && shape != 5; i++) {
                int j = shape < 3 && desks > 2 ? (i + 1) % desks : i > 0 ? draw(0, i - 1) : i;
                pair(pairs, i, j);
            }
            int more = shape == 0 ? 0 : draw(0, desks);
            for (int i = 0; i < more; i++) {
                int a = draw(desks);
                int b = draw(desks);
                // Often only doors between even and odd desks, so that two colours do.
                if (shape != 1 || (a + b) % 2 == 1) {
                    pair(pairs, a, b);
                }
            }
            if (desks == 7 && draw(2) == 0) {
                pairs.clear();
                for (int i = 0; i < 6; i++) {
                    pair(pairs, i, (i + 1) % 6);
                }
                pair(pairs, 6, 0);
                pair(pairs, 6, draw(2, 4));
            }
            if (pairs.isEmpty()) {
                pair(pairs, 0, 1);
            }
            List<String> told = new ArrayList<>(pairs.values());
            java.util.Collections.shuffle(told, random);
            return String.join(",", told);
        }

        void pair(Map<String, String> pairs, int a, int b) {
            if (a == b) {
                return;
            }
            String key = "" + (char) ('a' + Math.min(a, b)) + (char) ('a' + Math.max(a, b));
            String told = draw(2) == 0 ? key : "" + key.charAt(1) + key.charAt(0);
            pairs.put(key, told + (draw(2) == 0 ? "" : "" + draw(1, 9)));
        }

        String lawText(boolean spoil) {
            if (draw(2) == 0) {
                String[] plain = {"y:2-b", "y:1-q", "y:b-q", "y:b=1|q=1?1", "y:q<1?1", "y:b>1&q=0?r+1;y:b<2?1",
                    "y:c+b>2?1;y:q", "y:3-b-q", "y:[b+q+c]/2", "y:t>f?b+1;y:2-q", "y:9-l*p", "y:b*2-f+r"};
                return spoiled(plain[draw(plain.length)], spoil);
            }
            StringBuilder s = new StringBuilder();
            int clauses = draw(1, 3);
            for (int i = 0; i < clauses; i++) {
                s.append(i > 0 ? ";" : "").append("y:");
                if (draw(3) != 0) {
                    s.append(condition(draw(5) == 0 ? 6 : 2)).append('?');
                }
                s.append(sum(draw(5) == 0 ? 6 : 2));
            }
            String whole = s.length() > 150 ? "y:b-q+1" : s.toString();
            return spoiled(whole, spoil);
        }

        String condition(int depth) {
            StringBuilder s = new StringBuilder(unit(depth));
            for (int i = draw(3); i > 1; i--) {
                s.append(draw(2) == 0 ? "|" : "&").append(unit(depth));
            }
            return s.toString();
        }

        String unit(int depth) {
            int kind = depth > 0 ? draw(5) : 4;
            if (kind == 0) {
                return "!" + unit(depth - 1);
            }
            if (kind == 1) {
                return "(" + condition(depth - 1) + ")";
            }
            return sum(Math.min(depth, 1)) + "=<>".charAt(draw(3)) + sum(Math.min(depth, 1));
        }

        String sum(int depth) {
            StringBuilder s = new StringBuilder(term(depth));
            for (int i = draw(3); i > 1; i--) {
                s.append(draw(2) == 0 ? "+" : "-").append(term(depth));
            }
            return s.toString();
        }

        String term(int depth) {
            StringBuilder s = new StringBuilder(atom(depth));
            for (int i = draw(4); i > 2; i--) {
                s.append(draw(2) == 0 ? "*" : "/").append(atom(depth));
            }
            return s.toString();
        }

        String atom(int depth) {
            int kind = draw(6);
            if (kind == 0 && depth > 0) {
                return "[" + sum(depth - 1) + "]";
            }
            if (kind < 3) {
                return "" + (draw(6) == 0 ? draw(0, 9999) : draw(0, 4));
            }
            return "" + "cftlrpbqbq".charAt(draw(10));
        }
    }

    /** The document once more, written with texts and maps, slow and plain. */
    static final class Naive {
        String tape = "";
        final List<String> laws = new ArrayList<>();
        int holding = NONE;
        String seats = null;
        Map<String, Integer> doors = new HashMap<>();
        Set<String> foes = new HashSet<>();
        int[] rank;
        int[] papers;
        int[] wish;
        int[][] worth;
        List<int[]> diary = new ArrayList<>();
        List<int[]> plan = null;
        String imageSeats = null;
        List<int[]> imageDiary = null;

        int feed(int[] five) {
            StringBuilder s = new StringBuilder(tape);
            for (int v : five) {
                for (int i = 3; i >= 0; i--) {
                    char c = (char) (v >> 8 * i & 255);
                    if (c != 0) {
                        s.append(c);
                    }
                }
            }
            if (s.length() > 160) {
                return NONE;
            }
            tape = s.toString();
            return tape.length();
        }

        boolean end(int to) {
            if (to < 0 || to > tape.length()) {
                return false;
            }
            tape = tape.substring(0, to);
            return true;
        }

        int fault(int sort) {
            if (sort == 0) {
                return officeFault();
            }
            if (sort == 1) {
                return lawFault();
            }
            return sort == 2 ? planFault() : -2;
        }

        /** Sign by sign, with what was told so far as a text. */
        int officeFault() {
            String told = "";
            for (int i = 0; i < tape.length(); i++) {
                char c = tape.charAt(i);
                if (c == ' ') {
                    continue;
                }
                if (!officeGoesOn(told, c)) {
                    return i;
                }
                told += c;
            }
            return told.matches("[^;]+;[a-l]{2}[1-9]?(,[a-l]{2}[1-9]?)*(;[A-L]{2}(,[A-L]{2})*)?") ? NONE : tape.length();
        }

        static boolean officeGoesOn(String told, char c) {
            String[] parts = told.split(";", -1);
            String row = parts[0];
            if (parts.length == 1) {
                if (c == ';') {
                    return row.length() >= 2 && row.indexOf('.') >= 0 && row.matches(".*[A-L].*");
                }
                return row.length() < 12 && (c == '.' || c >= 'A' && c <= 'L' && row.indexOf(c) < 0);
            }
            boolean isDoors = parts.length == 2;
            String part = parts[parts.length - 1];
            String[] pairs = part.split(",", -1);
            String last = pairs[pairs.length - 1];
            boolean letter = isDoors ? c >= 'a' && c < 'a' + row.length() : c >= 'A' && c <= 'L' && row.indexOf(c) >= 0;
            if (last.length() == 0) {
                return letter;
            }
            if (last.length() == 1) {
                for (int i = 0; i + 1 < pairs.length; i++) {
                    String p = pairs[i].substring(0, 2);
                    if (p.equals(last + c) || p.equals(c + last)) {
                        return false;
                    }
                }
                return letter && last.charAt(0) != c;
            }
            return c == ',' || isDoors && (c == ';' || last.length() == 2 && c >= '1' && c <= '9');
        }

        int planFault() {
            String told = "";
            for (int i = 0; i < tape.length(); i++) {
                char c = tape.charAt(i);
                if (c == ' ') {
                    continue;
                }
                int k = told.length() % 3;
                boolean fine = k == 0 ? c >= 'A' && c <= 'L' : k == 1 ? c >= 'a' && c <= 'l' : c == ',' && told.length() < 119;
                if (!fine) {
                    return i;
                }
                told += c;
            }
            return told.length() % 3 == 2 ? NONE : tape.length();
        }

        /**
         * A machine with a pile. States: 0 unit begins, 1 left sum asks an atom, 2 left sum has one,
         * 3 right asks, 4 right has, 5 unit behind ), 6 plain sum asks, 7 plain sum has,
         * 8 y, 9 colon, 10 clause begins, 11 clause's first sum asks, 12 clause's first sum has.
         */
        int lawFault() {
            ArrayDeque<int[]> pile = new ArrayDeque<>();
            int state = 8;
            int nots = 0;
            int digits = 0;
            for (int i = 0; i < tape.length(); i++) {
                char c = tape.charAt(i);
                if (c == ' ') {
                    continue;
                }
                int deep = nots;
                for (int[] p : pile) {
                    deep += p[1] + 1;
                }
                boolean asks = state == 0 || state == 1 || state == 3 || state == 6 || state == 10 || state == 11;
                boolean has = state == 2 || state == 4 || state == 7 || state == 12;
                int hasNow = state == 0 || state == 1 ? 2 : state == 3 ? 4 : state == 6 ? 7 : 12;
                if (asks && "cftlrpbq".indexOf(c) >= 0) {
                    state = hasNow;
                    digits = 0;
                } else if (asks && c >= '0' && c <= '9') {
                    state = hasNow;
                    digits = 1;
                } else if (asks && c == '[' && deep < 6) {
                    pile.push(new int[] {hasNow, nots, '['});
                    nots = 0;
                    state = 6;
                } else if ((state == 0 || state == 10) && c == '!' && deep < 6) {
                    nots++;
                    state = 0;
                } else if ((state == 0 || state == 10) && c == '(' && deep < 6) {
                    pile.push(new int[] {5, nots, '('});
                    nots = 0;
                    state = 0;
                } else if (has && digits > 0 && digits < 4 && c >= '0' && c <= '9') {
                    digits++;
                } else if (has && "+-*/".indexOf(c) >= 0) {
                    state--;
                    digits = 0;
                } else if ((state == 2 || state == 12) && "=<>".indexOf(c) >= 0) {
                    state = 3;
                } else if ((state == 4 || state == 5) && "|&".indexOf(c) >= 0) {
                    state = 0;
                    nots = 0;
                } else if ((state == 4 || state == 5) && c == ')' && !pile.isEmpty() && pile.peek()[2] == '(') {
                    nots = pile.pop()[1];
                    state = 5;
                } else if (state == 7 && c == ']' && !pile.isEmpty()) {
                    int[] p = pile.pop();
                    state = p[0];
                    nots = p[1];
                    digits = 0;
                } else if ((state == 4 || state == 5) && c == '?' && pile.isEmpty()) {
                    state = 6;
                    nots = 0;
                } else if ((state == 7 || state == 12) && c == ';' && pile.isEmpty()) {
                    state = 8;
                } else if (state == 8 && c == 'y') {
                    state = 9;
                } else if (state == 9 && c == ':') {
                    state = 10;
                } else {
                    return i;
                }
            }
            return (state == 7 || state == 12) && pile.isEmpty() ? NONE : tape.length();
        }

        int text(int sort) {
            if (sort < 0 || sort > 2 || fault(sort) != NONE) {
                return NONE;
            }
            String s = tape.replace(" ", "");
            if (sort == 1) {
                if (laws.size() == 4) {
                    return NONE;
                }
                laws.add(s);
                tape = "";
                return laws.size() - 1;
            }
            if (sort == 2) {
                if (seats == null) {
                    return NONE;
                }
                plan = new ArrayList<>();
                for (String m : s.split(",")) {
                    plan.add(new int[] {m.charAt(0) - 'A', m.charAt(1) - 'a'});
                }
                tape = "";
                return plan.size();
            }
            tape = "";
            newOffice(s.split(";"));
            return seats.length();
        }

        void newOffice(String[] parts) {
            seats = parts[0];
            doors = new HashMap<>();
            foes = new HashSet<>();
            for (String p : parts[1].split(",")) {
                int length = p.length() > 2 ? p.charAt(2) - '0' : 1;
                doors.put(p.substring(0, 2), length);
                doors.put("" + p.charAt(1) + p.charAt(0), length);
            }
            if (parts.length > 2) {
                for (String p : parts[2].split(",")) {
                    foes.add(p);
                    foes.add("" + p.charAt(1) + p.charAt(0));
                }
            }
            rank = new int[12];
            papers = new int[12];
            wish = new int[12];
            Arrays.fill(papers, 1);
            Arrays.fill(wish, NONE);
            worth = new int[12][12];
            diary = new ArrayList<>();
            plan = null;
            imageSeats = null;
            holding = NONE;
        }

        int place(int c) {
            return seats == null || c < 0 || c > 11 ? NONE : seats.indexOf((char) ('A' + c));
        }

        boolean isDesk(int d) {
            return seats != null && d >= 0 && d < seats.length();
        }

        int desk(int d) {
            return !isDesk(d) ? THROWN : seats.charAt(d) == '.' ? NONE : seats.charAt(d) - 'A';
        }

        int door(int a, int b) {
            return isDesk(a) && isDesk(b) ? doors.getOrDefault("" + (char) ('a' + a) + (char) ('a' + b), NONE) : NONE;
        }

        int quarrel(int a, int b) {
            return place(a) < 0 || place(b) < 0 || a == b ? NONE : foes.contains("" + (char) ('A' + a) + (char) ('A' + b)) ? 1 : 0;
        }

        boolean set(int c, int what, int v) {
            if (place(c) < 0 || what != 0 && what != 1 || v < 0 || v > 9) {
                return false;
            }
            (what == 0 ? rank : papers)[c] = v;
            return true;
        }

        /** Of a clerk at a desk: how many others beside, with how many of these it quarrels. */
        int[] beside(String row, int c, int d) {
            int[] found = new int[2];
            for (int e = 0; e < row.length(); e++) {
                char w = row.charAt(e);
                if (door(d, e) > 0 && w != '.' && w != 'A' + c) {
                    found[0]++;
                    found[1] += quarrel(c, w - 'A') == 1 ? 1 : 0;
                }
            }
            return found;
        }

        int clerk(int c, int what) {
            if (place(c) < 0 || what < 0 || what > 4) {
                return NONE;
            }
            return what == 0 ? place(c) : what == 1 ? rank[c] : what == 2 ? papers[c] : beside(seats, c, place(c))[what - 3];
        }

        boolean law(int l) {
            if (seats == null || l < -1 || l >= laws.size()) {
                return false;
            }
            holding = l;
            return true;
        }

        /** 1 .. 4 as a plan's why, 0 if the move can be made and is let. */
        int why(String row, int c, int d, int law) {
            if (c < 0 || c > 11 || row.indexOf((char) ('A' + c)) < 0 || !isDesk(d)) {
                return 1;
            }
            int f = row.indexOf((char) ('A' + c));
            if (door(f, d) < 0) {
                return 2;
            }
            if (row.charAt(d) != '.') {
                return 3;
            }
            if (law == NONE) {
                return 0;
            }
            int[] near = beside(row, c, d);
            int[] letters = {c, f, d, door(f, d), rank[c], papers[c], near[0], near[1]};
            return worthOf(laws.get(law), letters) > 0 ? 0 : 4;
        }

        static int worthOf(String law, int[] letters) {
            for (String clause : law.split(";")) {
                String body = clause.substring(2);
                int ask = body.indexOf('?');
                if (ask < 0 || holdsTrue(body.substring(0, ask), letters)) {
                    return (int) value(body.substring(ask + 1), letters);
                }
            }
            return 0;
        }

        /** The last place of one of the signs outside of all brackets, NONE without. */
        static int outer(String s, String signs) {
            int deep = 0;
            for (int i = s.length() - 1; i >= 0; i--) {
                char c = s.charAt(i);
                deep += c == ')' || c == ']' ? 1 : c == '(' || c == '[' ? -1 : 0;
                if (deep == 0 && signs.indexOf(c) >= 0) {
                    return i;
                }
            }
            return NONE;
        }

        static boolean holdsTrue(String s, int[] letters) {
            int or = outer(s, "|");
            if (or >= 0) {
                return holdsTrue(s.substring(0, or), letters) || holdsTrue(s.substring(or + 1), letters);
            }
            int and = outer(s, "&");
            if (and >= 0) {
                return holdsTrue(s.substring(0, and), letters) && holdsTrue(s.substring(and + 1), letters);
            }
            if (s.charAt(0) == '!') {
                return !holdsTrue(s.substring(1), letters);
            }
            if (s.charAt(0) == '(') {
                return holdsTrue(s.substring(1, s.length() - 1), letters);
            }
            int at = outer(s, "=<>");
            long left = value(s.substring(0, at), letters);
            long right = value(s.substring(at + 1), letters);
            return s.charAt(at) == '=' ? left == right : s.charAt(at) == '<' ? left < right : left > right;
        }

        static long value(String s, int[] letters) {
            int at = outer(s, "+-");
            at = at >= 0 ? at : outer(s, "*/");
            if (at >= 0) {
                long left = value(s.substring(0, at), letters);
                long right = value(s.substring(at + 1), letters);
                char c = s.charAt(at);
                long v = c == '+' ? left + right : c == '-' ? left - right : c == '*' ? left * right : right == 0 ? 0 : left / right;
                return Math.max(-1000000, Math.min(1000000, v));
            }
            if (s.charAt(0) == '[') {
                return value(s.substring(1, s.length() - 1), letters);
            }
            int letter = "cftlrpbq".indexOf(s.charAt(0));
            return letter >= 0 ? letters[letter] : Long.parseLong(s);
        }

        int let(int c, int d) {
            int why = seats == null ? 1 : why(seats, c, d, holding);
            return why == 0 ? 1 : why == 4 ? 0 : NONE;
        }

        static String moved(String row, int c, int d) {
            char[] s = row.toCharArray();
            s[row.indexOf((char) ('A' + c))] = '.';
            s[d] = (char) ('A' + c);
            return new String(s);
        }

        int move(int c, int d) {
            if (let(c, d) != 1) {
                return NONE;
            }
            int cost = papers[c] * door(place(c), d);
            diary.add(new int[] {c, place(c), d});
            if (diary.size() > 100) {
                diary.remove(0);
            }
            seats = moved(seats, c, d);
            return cost;
        }

        int undo() {
            if (diary.isEmpty()) {
                return NONE;
            }
            int[] m = diary.remove(diary.size() - 1);
            seats = moved(seats, m[0], m[1]);
            return diary.size();
        }

        int diary(int i) {
            return i >= 0 && i < diary.size() ? 16 * diary.get(i)[0] + diary.get(i)[2] : NONE;
        }

        int judge(int rules, int what) {
            if (plan == null || rules < 0 || rules > 7 || what < 0 || what > 2) {
                return HIDDEN;
            }
            String row = seats;
            int cost = 0;
            for (int i = 0; i < plan.size(); i++) {
                int c = plan.get(i)[0];
                int d = plan.get(i)[1];
                int why = why(row, c, d, holding);
                String next = why == 0 ? moved(row, c, d) : row;
                for (int j = 0; why == 0 && (rules & 1) != 0 && j < i; j++) {
                    why = plan.get(j)[0] == c ? 5 : 0;
                }
                for (int j = 0; why == 0 && (rules & 2) != 0 && j < i; j++) {
                    why = rank[plan.get(j)[0]] > rank[c] ? 6 : 0;
                }
                for (String pair : foes) {
                    int a = next.indexOf(pair.charAt(0));
                    int b = next.indexOf(pair.charAt(1));
                    why = why == 0 && (rules & 4) != 0 && door(a, b) > 0 ? 7 : why;
                }
                if (why != 0) {
                    return what == 0 ? i : what == 1 ? why : cost;
                }
                cost += papers[c] * door(row.indexOf((char) ('A' + c)), d);
                row = next;
            }
            return what == 0 ? NONE : what == 1 ? 0 : cost;
        }

        boolean wish(int d, int c) {
            if (!isDesk(d) || c != NONE && c != 12 && place(c) < 0) {
                return false;
            }
            for (int e = 0; e < 12; e++) {
                if (e != d && c != NONE && c != 12 && wish[e] == c) {
                    return false;
                }
            }
            wish[d] = c;
            return true;
        }

        boolean isDone(String row, int[] wishes) {
            for (int d = 0; d < row.length(); d++) {
                if (wishes[d] != NONE && row.charAt(d) != (wishes[d] == 12 ? '.' : 'A' + wishes[d])) {
                    return false;
                }
            }
            return true;
        }

        int done() {
            return seats == null ? NONE : isDone(seats, wish) ? 1 : 0;
        }

        boolean hidden() {
            return seats == null || seats.length() > 8;
        }

        // What was found last, by all that it hangs on: the naive search is slow.
        String lastKey = "";
        Map<String, Integer> lastFound;

        Map<String, Integer> depths(String from, int law) {
            String key = from + doors + foes + Arrays.toString(rank) + Arrays.toString(papers) + (law == NONE ? "" : laws.get(law));
            if (!key.equals(lastKey)) {
                Map<String, Integer> found = new HashMap<>();
                ArrayDeque<String> queue = new ArrayDeque<>();
                found.put(from, 0);
                queue.add(from);
                while (!queue.isEmpty()) {
                    String row = queue.remove();
                    for (int m : moves(row, law)) {
                        String next = moved(row, m >> 4, m & 15);
                        if (!found.containsKey(next)) {
                            found.put(next, found.get(row) + 1);
                            queue.add(next);
                        }
                    }
                }
                lastKey = key;
                lastFound = found;
            }
            return lastFound;
        }

        List<Integer> moves(String row, int law) {
            List<Integer> found = new ArrayList<>();
            for (int c = 0; c < 12; c++) {
                for (int d = 0; d < row.length() && row.indexOf((char) ('A' + c)) >= 0; d++) {
                    if (row.charAt(d) == '.' && why(row, c, d, law) == 0) {
                        found.add(16 * c + d);
                    }
                }
            }
            return found;
        }

        int fewest(int i) {
            if (hidden()) {
                return HIDDEN;
            }
            int fewest = Integer.MAX_VALUE;
            Map<String, Integer> found = depths(seats, holding);
            for (Map.Entry<String, Integer> e : found.entrySet()) {
                fewest = isDone(e.getKey(), wish) ? Math.min(fewest, e.getValue()) : fewest;
            }
            if (fewest == Integer.MAX_VALUE) {
                return NONE;
            }
            if (i < 0 || i >= fewest) {
                return i == NONE ? fewest : NONE;
            }
            // Those from which the goal is as near as can be, backwards level by level.
            List<Set<String>> good = new ArrayList<>();
            for (int k = 0; k <= fewest; k++) {
                good.add(new HashSet<>());
            }
            for (int k = fewest; k >= 0; k--) {
                for (Map.Entry<String, Integer> e : found.entrySet()) {
                    if (e.getValue() == k && k == fewest && isDone(e.getKey(), wish)) {
                        good.get(k).add(e.getKey());
                    }
                    if (e.getValue() == k && k < fewest) {
                        for (int m : moves(e.getKey(), holding)) {
                            if (good.get(k + 1).contains(moved(e.getKey(), m >> 4, m & 15))) {
                                good.get(k).add(e.getKey());
                            }
                        }
                    }
                }
            }
            String row = seats;
            for (int k = 0; ; k++) {
                int least = Integer.MAX_VALUE;
                for (int m : moves(row, holding)) {
                    least = good.get(k + 1).contains(moved(row, m >> 4, m & 15)) ? Math.min(least, m) : least;
                }
                if (k == i) {
                    return least;
                }
                row = moved(row, least >> 4, least & 15);
            }
        }

        int cheapestTo(int[] wishes, int ill) {
            Map<String, Integer> best = new HashMap<>();
            PriorityQueue<Object[]> queue = new PriorityQueue<>((a, b) -> Integer.compare((int) a[1], (int) b[1]));
            best.put(seats, 0);
            queue.add(new Object[] {seats, 0});
            while (!queue.isEmpty()) {
                Object[] e = queue.remove();
                String row = (String) e[0];
                int cost = (int) e[1];
                if (cost > best.get(row)) {
                    continue;
                }
                if (isDone(row, wishes)) {
                    return cost;
                }
                for (int m : moves(row, holding)) {
                    int c = m >> 4;
                    if (c != ill) {
                        String next = moved(row, c, m & 15);
                        int more = cost + papers[c] * door(row.indexOf((char) ('A' + c)), m & 15);
                        if (!best.containsKey(next) || best.get(next) > more) {
                            best.put(next, more);
                            queue.add(new Object[] {next, more});
                        }
                    }
                }
            }
            return NONE;
        }

        int cheapest() {
            return hidden() ? HIDDEN : cheapestTo(wish, NONE);
        }

        int all(int what) {
            if (hidden() || what != 0 && what != 1) {
                return HIDDEN;
            }
            Map<String, Integer> found = depths(seats, holding);
            return what == 0 ? found.size() : java.util.Collections.max(found.values());
        }

        int count(int k) {
            if (hidden() || k < 0 || k > 60) {
                return HIDDEN;
            }
            int n = 0;
            for (int depth : depths(seats, holding).values()) {
                n += depth == k ? 1 : 0;
            }
            return n;
        }

        int ill(int c) {
            if (hidden() || place(c) < 0) {
                return HIDDEN;
            }
            int[] left = wish.clone();
            left[place(c)] = NONE;
            for (int d = 0; d < 12; d++) {
                left[d] = left[d] == c ? NONE : left[d];
            }
            return cheapestTo(left, c);
        }

        int holds() {
            if (hidden()) {
                return HIDDEN;
            }
            int most = 0;
            for (int c = 0; c < 12; c++) {
                if (place(c) >= 0) {
                    if (ill(c) == NONE) {
                        return NONE;
                    }
                    most = Math.max(most, ill(c));
                }
            }
            return most;
        }

        boolean joinedWithout(int out) {
            Set<Integer> seen = new HashSet<>();
            int start = out == 0 ? 1 : 0;
            ArrayDeque<Integer> queue = new ArrayDeque<>(List.of(start));
            seen.add(start);
            while (!queue.isEmpty()) {
                int d = queue.remove();
                for (int e = 0; e < seats.length(); e++) {
                    if (e != out && door(d, e) > 0 && seen.add(e)) {
                        queue.add(e);
                    }
                }
            }
            return seen.size() == seats.length() - (out >= 0 ? 1 : 0);
        }

        int sort() {
            if (seats == null || seats.indexOf('.') != seats.lastIndexOf('.')) {
                return NONE;
            }
            int n = seats.length();
            if (!joinedWithout(-1)) {
                return 0;
            }
            boolean hinge = n == 2;
            boolean ring = true;
            for (int d = 0; d < n; d++) {
                hinge |= !joinedWithout(d);
                int ways = 0;
                for (int e = 0; e < n; e++) {
                    ways += door(d, e) > 0 ? 1 : 0;
                }
                ring &= ways == 2;
            }
            if (hinge) {
                return 1;
            }
            if (ring) {
                return 2;
            }
            if (n == 7 && doors.size() == 16 && isTheta(new int[7], 0)) {
                return 3;
            }
            return colouring() >= 0 ? 4 : 5;
        }

        /** Whether some naming of the desks makes the doors 01 12 23 34 45 50 06 63. */
        boolean isTheta(int[] name, int told) {
            if (told == 7) {
                int[][] due = {{0, 1}, {1, 2}, {2, 3}, {3, 4}, {4, 5}, {5, 0}, {0, 6}, {6, 3}};
                for (int[] p : due) {
                    if (door(name[p[0]], name[p[1]]) < 0) {
                        return false;
                    }
                }
                return true;
            }
            for (int d = 0; d < 7; d++) {
                boolean used = false;
                for (int i = 0; i < told; i++) {
                    used |= name[i] == d;
                }
                name[told] = d;
                if (!used && isTheta(name, told + 1)) {
                    return true;
                }
            }
            return false;
        }

        /** Bits of one colour of a colouring by two, NONE if there is none. */
        int colouring() {
            for (int bits = 0; bits < 1 << seats.length(); bits++) {
                boolean fine = true;
                for (String p : doors.keySet()) {
                    fine &= (bits >> p.charAt(0) - 'a' & 1) != (bits >> p.charAt(1) - 'a' & 1);
                }
                if (fine) {
                    return bits;
                }
            }
            return NONE;
        }

        int can() {
            int sort = sort();
            if (sort == NONE) {
                return NONE;
            }
            StringBuilder wished = new StringBuilder();
            for (int d = 0; d < seats.length(); d++) {
                if (wish[d] == NONE) {
                    return NONE;
                }
                wished.append(wish[d] == 12 ? '.' : (char) ('A' + wish[d]));
            }
            char[] a = seats.toCharArray();
            char[] b = wished.toString().toCharArray();
            Arrays.sort(a);
            Arrays.sort(b);
            if (!Arrays.equals(a, b)) {
                return NONE;
            }
            // What the shapes promise is what can be come to: so the search is the judge where it can.
            if (seats.length() <= 7) {
                return depths(seats, NONE).containsKey(wished.toString()) ? 1 : 0;
            }
            if (sort == 0 || sort == 1 || sort == 3) {
                return seats.length() > 8 ? HIDDEN : depths(seats, NONE).containsKey(wished.toString()) ? 1 : 0;
            }
            return sort == 5 ? 1 : sort == 4 ? parity(wished.toString()) : round(wished.toString());
        }

        int parity(String wished) {
            char[] row = seats.toCharArray();
            int swaps = 0;
            for (int d = 0; d < row.length; d++) {
                for (int e = d + 1; e < row.length; e++) {
                    if (row[d] != wished.charAt(d) && row[e] == wished.charAt(d)) {
                        row[e] = row[d];
                        row[d] = wished.charAt(d);
                        swaps++;
                    }
                }
            }
            int colours = colouring();
            int differ = (colours >> seats.indexOf('.') ^ colours >> wished.indexOf('.')) & 1;
            return swaps % 2 == differ ? 1 : 0;
        }

        int round(String wished) {
            String now = "";
            String then = "";
            int past = -1;
            int d = 0;
            do {
                now += seats.charAt(d);
                then += wished.charAt(d);
                int next = -1;
                for (int e = 0; e < seats.length(); e++) {
                    next = next < 0 && e != past && door(d, e) > 0 ? e : next;
                }
                past = d;
                d = next;
            } while (d != 0);
            now = now.replace(".", "");
            return (now + now).contains(then.replace(".", "")) ? 1 : 0;
        }

        boolean worth(int c, int d, int v) {
            if (place(c) < 0 || !isDesk(d) || v < 0 || v > 99) {
                return false;
            }
            worth[c][d] = v;
            return true;
        }

        int seated(int c) {
            if (c == NONE && seats != null) {
                int sum = 0;
                for (int k = 0; k < 12; k++) {
                    sum += place(k) >= 0 ? worth[k][place(k)] : 0;
                }
                return sum;
            }
            return place(c) < 0 ? NONE : worth[c][place(c)];
        }

        int tried;
        int[] tryBest;

        /** All seatings, the lowest clerk's lowest desks first; only a greater sum replaces one. */
        void tryAll(int[][] told, int c, int taken, int sum, int[] desks) {
            if (c == 12) {
                if (sum > tried) {
                    tried = sum;
                    tryBest = desks.clone();
                }
                return;
            }
            if (place(c) < 0) {
                tryAll(told, c + 1, taken, sum, desks);
                return;
            }
            for (int d = 0; d < seats.length(); d++) {
                if ((taken >> d & 1) == 0) {
                    desks[c] = d;
                    tryAll(told, c + 1, taken | 1 << d, sum + told[c][d], desks);
                }
            }
        }

        /** Those with more desks than can be tried: by going to and fro between better seatings. */
        void solve(int[][] told) {
            tried = -1;
            if (seats.length() <= 7) {
                tryAll(told, 0, 0, 0, new int[12]);
                return;
            }
            solveByFlow(told);
        }

        /** Worths with the order of ties added as small parts, and rows of longest ways to better seatings. */
        void solveByFlow(int[][] told) {
            List<Integer> who = new ArrayList<>();
            for (int c = 0; c < 12; c++) {
                if (place(c) >= 0) {
                    who.add(c);
                }
            }
            int n = seats.length();
            java.math.BigInteger[][] value = new java.math.BigInteger[who.size()][n];
            java.math.BigInteger base = java.math.BigInteger.valueOf(13);
            for (int i = 0; i < who.size(); i++) {
                for (int d = 0; d < n; d++) {
                    value[i][d] = java.math.BigInteger.valueOf(told[who.get(i)][d]).multiply(base.pow(14))
                        .subtract(java.math.BigInteger.valueOf(d).multiply(base.pow(12 - i)));
                }
            }
            int[] at = new int[who.size()];
            Arrays.fill(at, NONE);
            for (int added = 0; added < at.length; added++) {
                augment(value, at, added, n);
            }
            tryBest = new int[12];
            tried = 0;
            for (int i = 0; i < at.length; i++) {
                tryBest[who.get(i)] = at[i];
                tried += told[who.get(i)][at[i]];
            }
        }

        /** Bellman and Ford's longest way from the added clerk to a desk of nobody's. */
        static void augment(java.math.BigInteger[][] value, int[] at, int added, int n) {
            java.math.BigInteger[] most = new java.math.BigInteger[n];
            int[] by = new int[n];
            for (int d = 0; d < n; d++) {
                most[d] = value[added][d];
                by[d] = added;
            }
            for (int rounds = 0; rounds < n; rounds++) {
                for (int i = 0; i < added; i++) {
                    for (int d = 0; d < n; d++) {
                        java.math.BigInteger v = most[at[i]].subtract(value[i][at[i]]).add(value[i][d]);
                        if (d != at[i] && v.compareTo(most[d]) > 0) {
                            most[d] = v;
                            by[d] = i;
                        }
                    }
                }
            }
            int end = NONE;
            for (int d = 0; d < n; d++) {
                boolean free = true;
                for (int i = 0; i < added; i++) {
                    free &= at[i] != d;
                }
                end = free && (end < 0 || most[d].compareTo(most[end]) > 0) ? d : end;
            }
            while (true) {
                int i = by[end];
                int past = at[i];
                at[i] = end;
                if (i == added) {
                    return;
                }
                end = past;
            }
        }

        int best(int c) {
            if (seats == null || c != NONE && place(c) < 0) {
                return NONE;
            }
            solve(worth);
            return c == NONE ? tried : tryBest[c];
        }

        int gains(int c, int what) {
            if (place(c) < 0 || what < 0 || what > 1) {
                return NONE;
            }
            solve(worth);
            int truth = worth[c][tryBest[c]];
            int most = Integer.MIN_VALUE;
            int desk = NONE;
            for (int d = 0; d < seats.length(); d++) {
                int[][] told = worth.clone();
                told[c] = new int[12];
                told[c][d] = 99;
                solve(told);
                int gain = worth[c][tryBest[c]] - truth;
                if (gain > most) {
                    most = gain;
                    desk = d;
                }
            }
            return what == 0 ? most : desk;
        }

        int exchange(int clerk) {
            if (place(clerk) < 0) {
                return NONE;
            }
            TreeMap<Integer, Integer> own = new TreeMap<>();
            TreeMap<Integer, Integer> gets = new TreeMap<>();
            List<Integer> desks = new ArrayList<>();
            for (int d = 0; d < seats.length(); d++) {
                desks.add(d);
                if (seats.charAt(d) != '.') {
                    own.put(seats.charAt(d) - 'A', d);
                }
            }
            while (!own.isEmpty()) {
                TreeMap<Integer, Integer> points = new TreeMap<>();
                for (int c : own.keySet()) {
                    int best = own.get(c);
                    for (int d : desks) {
                        best = worth[c][d] > worth[c][best] ? d : best;
                    }
                    points.put(c, best);
                }
                List<Integer> leaving = new ArrayList<>();
                for (int c : points.keySet()) {
                    if (leaving.isEmpty() && !own.containsValue(points.get(c))) {
                        leaving.add(c);
                    }
                }
                for (int c : points.keySet()) {
                    List<Integer> way = new ArrayList<>();
                    int here = c;
                    while (leaving.isEmpty() && !way.contains(here)) {
                        way.add(here);
                        here = seats.charAt(points.get(here)) - 'A';
                    }
                    if (leaving.isEmpty() && here == c) {
                        leaving.addAll(way);
                    }
                }
                for (int c : leaving) {
                    gets.put(c, points.get(c));
                    desks.remove(points.get(c));
                    own.remove(c);
                }
            }
            return gets.get(clerk);
        }

        int agree(int i) {
            if (seats == null) {
                return NONE;
            }
            List<Integer> pairs = new ArrayList<>();
            for (int a = 0; a < 12; a++) {
                for (int b = a + 1; b < 12; b++) {
                    int p = place(a);
                    int q = place(b);
                    if (p >= 0 && q >= 0 && worth[a][q] > worth[a][p] && worth[b][p] > worth[b][q]) {
                        pairs.add(16 * a + b);
                    }
                }
            }
            return i == NONE ? pairs.size() : i >= 0 && i < pairs.size() ? pairs.get(i) : NONE;
        }

        int vote(int one, int other) {
            if (!isDesk(one) || !isDesk(other) || one == other || seats.charAt(one) == '.' && seats.charAt(other) == '.') {
                return HIDDEN;
            }
            char[] s = seats.toCharArray();
            s[one] = seats.charAt(other);
            s[other] = seats.charAt(one);
            int votes = 0;
            for (int d = 0; d < s.length; d++) {
                if (d != one && d != other && s[d] != '.') {
                    int now = beside(seats, s[d] - 'A', d)[1];
                    int then = beside(new String(s), s[d] - 'A', d)[1];
                    votes += then < now ? 1 : then > now ? -1 : 0;
                }
            }
            return votes;
        }

        int image() {
            if (seats == null) {
                return NONE;
            }
            imageSeats = seats;
            imageDiary = new ArrayList<>(diary);
            return diary.size();
        }

        int back() {
            if (imageSeats == null) {
                return NONE;
            }
            seats = imageSeats;
            diary = new ArrayList<>(imageDiary);
            return diary.size();
        }

        int told(int what) {
            int bits = 0;
            for (int c = 0; c < 12; c++) {
                bits |= place(c) >= 0 ? 1 << c : 0;
            }
            int[] answers = {seats == null ? 0 : seats.length(), bits, laws.size(), tape.length(),
                plan == null ? NONE : plan.size(), diary.size(), holding};
            return what >= 0 && what < answers.length ? answers[what] : HIDDEN;
        }
    }
}
