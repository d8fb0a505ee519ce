import java.util.NoSuchElementException;
import java.util.Random;

/** Any call with any numbers in any state: only desk throws, and only what it says; and every run ends soon. */
public final class RoomTests {
    private static final int[] ODD = {0, 1, 2, 3, 4, 5, 6, 7, 8, 11, 12, 13, 15, 16, 31, 32, 33, 59, 60, 61, 63, 64,
        99, 100, 101, 159, 160, 161, 255, 256, 1000000, -1, -2, -3, -12, -32, -1000000,
        Integer.MAX_VALUE, Integer.MIN_VALUE, Integer.MAX_VALUE - 1, Integer.MIN_VALUE + 1};
    private static final String[] TEXTS = {
        "A.;ab", "AB.C;ab,bc2,cd,da;AB", "ABC.;ab,bc,cd;AB", ".L.K.J;ab9,bc,cd,de,ef,fa,ad;LK,KJ",
        "ABCDEFG.;ab,bc,cd,de,ef,fg,gh,ha,ae", "A.......;ab,bc,cd,de,ef,fg,gh",
        "ABCDEFGHIJK.;ab,bc,cd,de,ef,fg,gh,hi,ij,jk,kl,la,ad;AB,CD", "...........L;al",
        "y:1", "y:2-q", "y:!(b>1)?[l-r*2]/9;y:c=f|t<3?1;y:q", "y:0", "Ab,Bc,Ca", "Ac", "Ll,Ka", "Hm", "y:", ""};

    private static Random random = new Random(7);

    private static int odd() {
        return random.nextInt(3) == 0 ? random.nextInt(13) : ODD[random.nextInt(ODD.length)];
    }

    private static void feed(DeskMoves x, String s) {
        for (int from = 0; from < s.length(); from += 20) {
            int[] five = new int[5];
            for (int i = 0; i < 20 && from + i < s.length(); i++) {
                five[i / 4] |= s.charAt(from + i) << 24 - i % 4 * 8;
            }
            x.feed(five[0], five[1], five[2], five[3], five[4]);
        }
    }

    private static long any(DeskMoves x, int which) {
        int a = odd();
        int b = odd();
        int c = odd();
        switch (which) {
            case 0: return x.feed(random.nextInt(), random.nextInt(), a, b, c);
            case 1: return x.end(a) ? 1 : 0;
            case 2: return x.fault(a);
            case 3: return x.text(a);
            case 4: return x.door(a, b);
            case 5: return x.quarrel(a, b);
            case 6: return x.set(a, b, c) ? 1 : 0;
            case 7: return x.clerk(a, b);
            case 8: return x.law(a) ? 1 : 0;
            case 9: return x.let(a, b);
            case 10: return x.move(a, b);
            case 11: return x.undo();
            case 12: return x.diary(a);
            case 13: return x.judge(a, b);
            case 14: return x.wish(a, b) ? 1 : 0;
            case 15: return x.done();
            case 16: return x.fewest(a);
            case 17: return x.cheapest();
            case 18: return x.all(a);
            case 19: return x.count(a);
            case 20: return x.ill(a);
            case 21: return x.holds();
            case 22: return x.sort();
            case 23: return x.can();
            case 24: return x.worth(a, b, c) ? 1 : 0;
            case 25: return x.seated(a);
            case 26: return x.best(a);
            case 27: return x.gains(a, b);
            case 28: return x.exchange(a);
            case 29: return x.agree(a);
            case 30: return x.vote(a, b);
            case 31: return x.image();
            case 32: return x.back();
            case 33: return x.told(a);
            default:
                try {
                    return x.desk(a);
                } catch (NoSuchElementException e) {
                    return -2;
                }
        }
    }

    /** Twelve rounds of calls of every kind, with texts in between. */
    private static long anyRun(int seed) {
        random = new Random(seed);
        DeskMoves x = new DeskMoves();
        long sum = 0;
        for (int i = 0; i < 480; i++) {
            if (random.nextInt(8) == 0) {
                x.end(0);
                feed(x, TEXTS[random.nextInt(TEXTS.length)]);
                sum = sum * 31 + x.text(random.nextInt(3));
            }
            sum = sum * 31 + any(x, random.nextInt(35));
        }
        return sum;
    }

    /** The dearest run: eight desks with all doors, a law that reads who sits beside, all searched after each move. */
    private static void dearest() {
        DeskMoves x = new DeskMoves();
        feed(x, "ABCDEFG.;ab2,ac,ad,ae,af,ag,ah,bc,bd,be,bf,bg,bh,cd,ce,cf,cg,ch,de,df,dg,dh,ef,eg,eh,fg,fh,gh;AB,CD,EF");
        x.text(0);
        feed(x, "y:b>3&q<2|l=2?[c+f+t]*[r+p+1]+1;y:[[b+q]*[c+f]+t*l]/[r+1]+p;y:1");
        x.text(1);
        x.law(0);
        for (int d = 0; d < 7; d++) {
            x.wish(d, (d + 1) % 7);
        }
        for (int i = 0; i < 80; i++) {
            x.move(i % 7, x.clerk(i % 7, 0) == 7 ? i % 6 : 7);
            x.set(i % 7, 1, i % 10);
            x.all(0);
            x.fewest(-1);
            x.holds();
            x.cheapest();
        }
    }

    public static void main(String[] args) {
        for (int seed = 1; seed <= 400; seed++) {
            long sum = anyRun(seed);
            if (seed % 40 == 0 && sum != anyRun(seed)) {
                System.out.println("run " + seed + " answers otherwise when it is run again");
                System.exit(1);
            }
        }
        long start = System.nanoTime();
        dearest();
        System.out.println("no machine's exception; the dearest run took " + (System.nanoTime() - start) / 1000000 + " ms");
    }
}
