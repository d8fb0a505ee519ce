import java.util.Arrays;
import java.util.NoSuchElementException;

/** One desk is empty: offices of desks, moves of clerks, and what can be told of them. */
public final class DeskMoves {
    public static final int NONE = -1;
    public static final int HIDDEN = -1000000;

    /** Desks at most; clerks at most. */
    private static final int MOST = 12;
    /** The wish that a desk be empty. */
    private static final int EMPTY = 12;
    /** Desks at most where all seatings are searched. */
    private static final int SEARCHED = 8;
    private static final int LAWS = 4;
    private static final int UNKNOWN = -2;

    private final Tape tape = new Tape();
    private final LawReader lawReader = new LawReader(tape);
    private final Law[] laws = new Law[LAWS];
    private int lawCount;
    private int holding = NONE;

    // A text is read into the spare one, so that a faulty text leaves the other alone.
    private Office office = new Office();
    private Office spareOffice = new Office();
    private Plan plan = new Plan();
    private Plan sparePlan = new Plan();

    private final Diary book = new Diary();
    private final Turns turns = new Turns();
    private final Wealth wealth = new Wealth();

    // Made when first asked for: most objects never search.
    private Ways ways;
    private Costs costs;
    private boolean explored;
    private int exploredLaw = NONE;
    /** Least costs by the clerk who is ill; the last one with nobody ill. */
    private final int[] least = new int[MOST + 1];

    public DeskMoves() {
        Arrays.fill(least, UNKNOWN);
    }

    public int feed(int a, int b, int c, int d, int e) {
        int more = Tape.signsIn(a) + Tape.signsIn(b) + Tape.signsIn(c) + Tape.signsIn(d) + Tape.signsIn(e);
        if (tape.length + more > Tape.LONGEST) {
            return NONE;
        }
        tape.append(a);
        tape.append(b);
        tape.append(c);
        tape.append(d);
        tape.append(e);
        return tape.length;
    }

    public boolean end(int n) {
        if (n < 0 || n > tape.length) {
            return false;
        }
        tape.length = n;
        return true;
    }

    public int fault(int sort) {
        if (sort < 0 || sort > 2) {
            return -2;
        }
        boolean isRead;
        if (sort == 0) {
            isRead = spareOffice.isReadFrom(tape);
        } else {
            isRead = sort == 1 ? lawReader.isRead() : sparePlan.isReadFrom(tape);
        }
        return isRead ? NONE : tape.at;
    }

    public int text(int sort) {
        if (sort == 0) {
            return takeOffice();
        }
        if (sort == 1) {
            return takeLaw();
        }
        return sort == 2 ? takePlan() : NONE;
    }

    public int desk(int desk) throws NoSuchElementException {
        if (!office.hasDesk(desk)) {
            throw new NoSuchElementException();
        }
        return office.seat[desk];
    }

    public int door(int one, int other) {
        int length = office.lengthBetween(one, other);
        return length > 0 ? length : NONE;
    }

    public int quarrel(int one, int other) {
        if (!office.hasClerk(one) || !office.hasClerk(other) || one == other) {
            return NONE;
        }
        return office.foes[one] >> other & 1;
    }

    public boolean set(int clerk, int what, int v) {
        if (!office.hasClerk(clerk) || what < 0 || what > 1 || v < 0 || v > 9) {
            return false;
        }
        if (what == 0) {
            office.rank[clerk] = v;
        } else {
            office.papers[clerk] = v;
        }
        forgetWays();
        return true;
    }

    public int clerk(int clerk, int what) {
        if (!office.hasClerk(clerk)) {
            return NONE;
        }
        int place = office.place[clerk];
        switch (what) {
            case 0:
                return place;
            case 1:
                return office.rank[clerk];
            case 2:
                return office.papers[clerk];
            case 3:
                return office.othersBeside(place, clerk);
            case 4:
                return office.foesBeside(place, clerk);
            default:
                return NONE;
        }
    }

    public boolean law(int law) {
        if (office.desks == 0 || law < NONE || law >= lawCount) {
            return false;
        }
        holding = law;
        forgetCosts();
        return true;
    }

    public int let(int clerk, int desk) {
        int hindrance = office.hindrance(lawOf(holding), clerk, desk);
        if (hindrance == Office.NOT_LET) {
            return 0;
        }
        return hindrance == 0 ? 1 : NONE;
    }

    public int move(int clerk, int desk) {
        if (office.hindrance(lawOf(holding), clerk, desk) != 0) {
            return NONE;
        }
        int cost = office.costOf(clerk, desk);
        book.write(clerk, office.place[clerk], desk);
        office.put(clerk, desk);
        forgetWays();
        return cost;
    }

    public int undo() {
        if (book.size == 0) {
            return NONE;
        }
        book.takeBack(office);
        forgetWays();
        return book.size;
    }

    public int diary(int i) {
        return book.moveAt(i);
    }

    public int judge(int rules, int what) {
        if (plan.size == 0 || rules < 0 || rules > 7 || what < 0 || what > 2) {
            return HIDDEN;
        }
        plan.follow(office, lawOf(holding), rules);
        if (what == 0) {
            return plan.wrong;
        }
        return what == 1 ? plan.why : plan.cost;
    }

    public boolean wish(int desk, int clerk) {
        if (!office.hasDesk(desk)) {
            return false;
        }
        if (clerk != NONE && clerk != EMPTY && !office.mayBeWished(clerk, desk)) {
            return false;
        }
        office.wishes[desk] = clerk;
        forgetCosts();
        return true;
    }

    public int done() {
        if (office.desks == 0) {
            return NONE;
        }
        return office.isAsWished() ? 1 : 0;
    }

    public int fewest(int i) {
        if (!isSearched()) {
            return HIDDEN;
        }
        Ways found = waysBy(holding);
        found.aim(office, NONE);
        int goal = found.firstMet();
        if (goal == NONE) {
            return NONE;
        }
        return i == NONE ? found.depthOf(goal) : found.moveTowards(goal, i);
    }

    public int cheapest() {
        return isSearched() ? leastCost(waysBy(holding), NONE) : HIDDEN;
    }

    public int all(int what) {
        if (!isSearched() || what < 0 || what > 1) {
            return HIDDEN;
        }
        Ways found = waysBy(holding);
        return what == 0 ? found.count : found.far;
    }

    public int count(int k) {
        if (!isSearched() || k < 0 || k > Ways.DEEPEST) {
            return HIDDEN;
        }
        return waysBy(holding).levels[k];
    }

    public int ill(int clerk) {
        if (!isSearched() || !office.hasClerk(clerk)) {
            return HIDDEN;
        }
        return leastCost(waysBy(holding), clerk);
    }

    public int holds() {
        if (!isSearched()) {
            return HIDDEN;
        }
        Ways found = waysBy(holding);
        int greatest = NONE;
        for (int clerk = 0; clerk < MOST; clerk++) {
            if (office.hasClerk(clerk)) {
                int cost = leastCost(found, clerk);
                if (cost == NONE) {
                    return NONE;
                }
                greatest = Math.max(greatest, cost);
            }
        }
        return greatest;
    }

    public int sort() {
        return turns.kindOf(office);
    }

    public int can() {
        int kind = turns.kindOf(office);
        if (kind == NONE || !office.wishesAreSeating()) {
            return NONE;
        }
        if (kind == Turns.RING) {
            return turns.sameRound(office) ? 1 : 0;
        }
        if (kind == Turns.COLOURED) {
            return turns.evenAsDue(office) ? 1 : 0;
        }
        if (kind == Turns.OTHER) {
            return 1;
        }
        if (!isSearched()) {
            return HIDDEN;
        }
        Ways found = waysBy(NONE);
        found.aim(office, NONE);
        return found.firstMet() == NONE ? 0 : 1;
    }

    public boolean worth(int clerk, int desk, int v) {
        if (!office.hasClerk(clerk) || !office.hasDesk(desk) || v < 0 || v > 99) {
            return false;
        }
        office.worths[clerk * MOST + desk] = v;
        wealth.forget();
        return true;
    }

    public int seated(int clerk) {
        if (clerk == NONE && office.desks > 0) {
            int sum = 0;
            for (int c = 0; c < MOST; c++) {
                sum += office.hasClerk(c) ? office.ownWorth(c) : 0;
            }
            return sum;
        }
        return office.hasClerk(clerk) ? office.ownWorth(clerk) : NONE;
    }

    public int best(int clerk) {
        if (clerk == NONE && office.desks > 0) {
            return wealth.greatestSum(office);
        }
        return office.hasClerk(clerk) ? wealth.greatestDesk(office, clerk) : NONE;
    }

    public int gains(int clerk, int what) {
        if (!office.hasClerk(clerk) || what < 0 || what > 1) {
            return NONE;
        }
        wealth.lie(office, clerk);
        return what == 0 ? wealth.gain[clerk] : wealth.gainDesk[clerk];
    }

    public int exchange(int clerk) {
        if (!office.hasClerk(clerk)) {
            return NONE;
        }
        wealth.exchangeAll(office);
        return wealth.got[clerk];
    }

    public int agree(int i) {
        if (office.desks == 0 || i < NONE) {
            return NONE;
        }
        int pairs = 0;
        for (int one = 0; one < MOST; one++) {
            for (int other = one + 1; other < MOST; other++) {
                if (office.bothWin(one, other)) {
                    if (pairs == i) {
                        return 16 * one + other;
                    }
                    pairs++;
                }
            }
        }
        return i == NONE ? pairs : NONE;
    }

    public int vote(int one, int other) {
        if (!office.hasDesk(one) || !office.hasDesk(other) || one == other) {
            return HIDDEN;
        }
        if (office.seat[one] == NONE && office.seat[other] == NONE) {
            return HIDDEN;
        }
        return office.votesFor(one, other);
    }

    public int image() {
        if (office.desks == 0) {
            return NONE;
        }
        book.keep(office);
        return book.size;
    }

    public int back() {
        if (!book.kept) {
            return NONE;
        }
        book.restore(office);
        forgetWays();
        return book.size;
    }

    public int told(int what) {
        switch (what) {
            case 0:
                return office.desks;
            case 1:
                return office.clerks;
            case 2:
                return lawCount;
            case 3:
                return tape.length;
            case 4:
                return plan.size > 0 ? plan.size : NONE;
            case 5:
                return book.size;
            case 6:
                return holding;
            default:
                return HIDDEN;
        }
    }

    private int takeOffice() {
        if (!spareOffice.isReadFrom(tape)) {
            return NONE;
        }
        Office past = office;
        office = spareOffice;
        spareOffice = past;
        tape.length = 0;
        plan.size = 0;
        holding = NONE;
        book.clear();
        wealth.forget();
        forgetWays();
        return office.desks;
    }

    private int takeLaw() {
        if (lawCount >= LAWS || !lawReader.isRead()) {
            return NONE;
        }
        laws[lawCount] = lawReader.makeLaw();
        tape.length = 0;
        lawCount++;
        return lawCount - 1;
    }

    private int takePlan() {
        if (office.desks == 0 || !sparePlan.isReadFrom(tape)) {
            return NONE;
        }
        Plan past = plan;
        plan = sparePlan;
        sparePlan = past;
        tape.length = 0;
        return plan.size;
    }

    /** The law of that number; null for none. */
    private Law lawOf(int number) {
        return number >= 0 && number < lawCount ? laws[number] : null;
    }

    private boolean isSearched() {
        return office.desks > 0 && office.desks <= SEARCHED;
    }

    private void forgetWays() {
        explored = false;
        forgetCosts();
    }

    private void forgetCosts() {
        Arrays.fill(least, UNKNOWN);
    }

    /** All that can be come to under that law; for offices that are searched. */
    private Ways waysBy(int law) {
        if (ways == null || ways.room < office.desks) {
            ways = new Ways(office.desks);
            explored = false;
        }
        if (!explored || exploredLaw != law) {
            ways.explore(office, lawOf(law));
            explored = true;
            exploredLaw = law;
        }
        return ways;
    }

    private int leastCost(Ways found, int ill) {
        int row = ill == NONE ? MOST : ill;
        if (least[row] == UNKNOWN) {
            if (costs == null || costs.cost.length < found.code.length) {
                costs = new Costs(found.code.length);
            }
            found.aim(office, ill);
            least[row] = costs.leastToGoal(found, ill);
        }
        return least[row];
    }

    /** The bytes that were fed, and the place up to which they are read. */
    static final class Tape {
        static final int LONGEST = 160;
        static final int END = -1;

        final int[] bytes = new int[LONGEST];
        int length;
        int at;

        static int signsIn(int four) {
            int signs = 0;
            for (int shift = 24; shift >= 0; shift -= 8) {
                signs += (four >>> shift & 255) != 0 ? 1 : 0;
            }
            return signs;
        }

        void append(int four) {
            for (int shift = 24; shift >= 0; shift -= 8) {
                int sign = four >>> shift & 255;
                if (sign != 0 && length < LONGEST) {
                    bytes[length] = sign;
                    length++;
                }
            }
        }

        /** The next sign that is no blank; stands at it then, or at the length. */
        int look() {
            while (at < length && at < LONGEST && bytes[at] == ' ') {
                at++;
            }
            return at < length && at < LONGEST ? bytes[at] : END;
        }

        boolean takes(int sign) {
            if (look() != sign) {
                return false;
            }
            at++;
            return true;
        }
    }

    /** Desks, doors, who sits where, and all that is told of them. */
    static final class Office {
        static final int NO_SUCH = 1;
        static final int NO_DOOR = 2;
        static final int NOT_EMPTY = 3;
        static final int NOT_LET = 4;
        /** Pairs that twelve can form. */
        static final int PAIRS = 66;

        int desks;
        /** Bits. */
        int clerks;
        /** By desk: the clerk there. */
        final int[] seat = new int[MOST];
        /** By clerk: its desk. */
        final int[] place = new int[MOST];
        final int[] lengths = new int[MOST * MOST];
        /** By desk: bits of the desks behind its doors. */
        final int[] beside = new int[MOST];
        /** By clerk: bits of those with whom it quarrels. */
        final int[] foes = new int[MOST];
        final int[] rank = new int[MOST];
        final int[] papers = new int[MOST];
        /** By desk: a clerk, EMPTY, or NONE. */
        final int[] wishes = new int[MOST];
        final int[] worths = new int[MOST * MOST];

        void clear() {
            desks = 0;
            clerks = 0;
            Arrays.fill(seat, NONE);
            Arrays.fill(place, NONE);
            Arrays.fill(lengths, 0);
            Arrays.fill(beside, 0);
            Arrays.fill(foes, 0);
            Arrays.fill(rank, 0);
            Arrays.fill(papers, 1);
            Arrays.fill(wishes, NONE);
            Arrays.fill(worths, 0);
        }

        /** Whether the tape is an office; if not, the tape stands at the fault. */
        boolean isReadFrom(Tape tape) {
            clear();
            tape.at = 0;
            return readSeats(tape) && readDoors(tape);
        }

        private boolean readSeats(Tape tape) {
            for (int i = 0; i <= MOST; i++) {
                int sign = tape.look();
                if (sign == ';') {
                    return hasBothKinds() && tape.takes(';');
                }
                if (!addDesk(sign)) {
                    return false;
                }
                tape.takes(sign);
            }
            return false;
        }

        private boolean hasBothKinds() {
            int sitting = Integer.bitCount(clerks);
            return desks >= 2 && sitting > 0 && sitting < desks;
        }

        private boolean addDesk(int sign) {
            int clerk = sign - 'A';
            boolean empty = sign == '.';
            if (desks >= MOST || !empty && (clerk < 0 || clerk >= MOST || hasClerk(clerk))) {
                return false;
            }
            if (!empty) {
                seat[desks] = clerk;
                place[clerk] = desks;
                clerks |= 1 << clerk;
            }
            desks++;
            return true;
        }

        private boolean readDoors(Tape tape) {
            for (int i = 0; i <= PAIRS; i++) {
                if (!readDoor(tape)) {
                    return false;
                }
                if (tape.look() == Tape.END) {
                    return true;
                }
                if (tape.takes(';')) {
                    return readQuarrels(tape);
                }
                if (!tape.takes(',')) {
                    return false;
                }
            }
            return false;
        }

        private boolean readDoor(Tape tape) {
            int one = tape.look() - 'a';
            if (!hasDesk(one)) {
                return false;
            }
            tape.at++;
            int other = tape.look() - 'a';
            if (!hasDesk(other) || other == one || lengths[one * MOST + other] != 0) {
                return false;
            }
            tape.at++;
            int length = tape.look() - '0';
            boolean isTold = length >= 1 && length <= 9;
            if (isTold) {
                tape.at++;
            }
            lengths[one * MOST + other] = isTold ? length : 1;
            lengths[other * MOST + one] = isTold ? length : 1;
            beside[one] |= 1 << other;
            beside[other] |= 1 << one;
            return true;
        }

        private boolean readQuarrels(Tape tape) {
            for (int i = 0; i <= PAIRS; i++) {
                if (!readQuarrel(tape)) {
                    return false;
                }
                if (tape.look() == Tape.END) {
                    return true;
                }
                if (!tape.takes(',')) {
                    return false;
                }
            }
            return false;
        }

        private boolean readQuarrel(Tape tape) {
            int one = tape.look() - 'A';
            if (!hasClerk(one)) {
                return false;
            }
            tape.at++;
            int other = tape.look() - 'A';
            if (!hasClerk(other) || other == one || (foes[one] >> other & 1) != 0) {
                return false;
            }
            tape.at++;
            foes[one] |= 1 << other;
            foes[other] |= 1 << one;
            return true;
        }

        boolean hasDesk(int desk) {
            return desk >= 0 && desk < desks && desk < MOST;
        }

        boolean hasClerk(int clerk) {
            return clerk >= 0 && clerk < MOST && (clerks >> clerk & 1) != 0;
        }

        /** Length of the door between two desks; 0 without. */
        int lengthBetween(int one, int other) {
            return hasDesk(one) && hasDesk(other) ? lengths[one * MOST + other] : 0;
        }

        /** How many but the clerk itself would sit beside it at the desk. */
        int othersBeside(int desk, int clerk) {
            int others = 0;
            for (int d = 0; d < desks; d++) {
                if ((beside[desk] >> d & 1) != 0 && seat[d] != NONE && seat[d] != clerk) {
                    others++;
                }
            }
            return others;
        }

        int foesBeside(int desk, int clerk) {
            int near = 0;
            for (int d = 0; d < desks; d++) {
                if ((beside[desk] >> d & 1) != 0 && seat[d] != NONE && (foes[clerk] >> seat[d] & 1) != 0) {
                    near++;
                }
            }
            return near;
        }

        /** Why a move can't be made or is not let, as a plan is judged; 0 if it can and is. */
        int hindrance(Law law, int clerk, int desk) {
            if (!hasClerk(clerk) || !hasDesk(desk)) {
                return NO_SUCH;
            }
            int from = place[clerk];
            if (lengthBetween(from, desk) == 0) {
                return NO_DOOR;
            }
            if (seat[desk] != NONE) {
                return NOT_EMPTY;
            }
            if (law == null) {
                return 0;
            }
            law.tellBeside(othersBeside(desk, clerk), foesBeside(desk, clerk));
            return law.worthOf(this, clerk, from, desk) > 0 ? 0 : NOT_LET;
        }

        int costOf(int clerk, int desk) {
            return papers[clerk] * lengthBetween(place[clerk], desk);
        }

        void put(int clerk, int desk) {
            int from = place[clerk];
            if (hasDesk(from) && hasDesk(desk)) {
                seat[from] = NONE;
                seat[desk] = clerk;
                place[clerk] = desk;
            }
        }

        void seatAs(int[] seats) {
            for (int d = 0; d < desks && d < seats.length; d++) {
                seat[d] = seats[d];
                if (hasClerk(seat[d])) {
                    place[seat[d]] = d;
                }
            }
        }

        boolean foesSitBeside() {
            for (int clerk = 0; clerk < MOST; clerk++) {
                if (hasClerk(clerk) && foesBeside(place[clerk], clerk) > 0) {
                    return true;
                }
            }
            return false;
        }

        boolean mayBeWished(int clerk, int desk) {
            for (int d = 0; d < desks; d++) {
                if (d != desk && wishes[d] == clerk) {
                    return false;
                }
            }
            return hasClerk(clerk);
        }

        boolean isAsWished() {
            for (int d = 0; d < desks; d++) {
                int due = wishes[d] == EMPTY ? NONE : wishes[d];
                if (wishes[d] != NONE && seat[d] != due) {
                    return false;
                }
            }
            return true;
        }

        /** Whether every desk has a wish and every clerk is wished somewhere. */
        boolean wishesAreSeating() {
            int wished = 0;
            for (int d = 0; d < desks; d++) {
                if (wishes[d] == NONE) {
                    return false;
                }
                wished |= wishes[d] == EMPTY ? 0 : 1 << wishes[d];
            }
            return wished == clerks;
        }

        int ownWorth(int clerk) {
            return worthAt(clerk, place[clerk]);
        }

        int worthAt(int clerk, int desk) {
            return hasClerk(clerk) && hasDesk(desk) ? worths[clerk * MOST + desk] : 0;
        }

        boolean bothWin(int one, int other) {
            return hasClerk(one) && hasClerk(other)
                && worthAt(one, place[other]) > ownWorth(one)
                && worthAt(other, place[one]) > ownWorth(other);
        }

        int votesFor(int one, int other) {
            int votes = 0;
            for (int clerk = 0; clerk < MOST; clerk++) {
                if (hasClerk(clerk) && place[clerk] != one && place[clerk] != other) {
                    int now = foesBeside(place[clerk], clerk);
                    swap(one, other);
                    int then = foesBeside(place[clerk], clerk);
                    swap(one, other);
                    votes += Integer.compare(now, then);
                }
            }
            return votes;
        }

        private void swap(int one, int other) {
            int first = seat[one];
            seat[one] = seat[other];
            seat[other] = first;
            if (hasClerk(seat[one])) {
                place[seat[one]] = one;
            }
            if (hasClerk(first)) {
                place[first] = other;
            }
        }
    }

    /** A law as rows of items, operands ahead of what joins them. */
    static final class Law {
        /** Ends a clause: the sum is the worth. */
        static final int WORTH = -';';
        /** Ends a condition: if it does not hold, the next clause is due. */
        static final int ASK = -'?';
        static final String LETTERS = "cftlrpbq";
        private static final int GREATEST = 1000000;
        /** Six within one another leave at most some twenty numbers waiting. */
        private static final int DEEPEST = 40;

        /** A number; a letter as -1 less its place in LETTERS; a sign's number negated. */
        private final int[] code;
        /** Whether it reads who sits beside. */
        final boolean looksBeside;
        private final int[] letters = new int[8];
        private final int[] stack = new int[DEEPEST];
        private int top;

        Law(int[] code, boolean looksBeside) {
            this.code = code;
            this.looksBeside = looksBeside;
        }

        void tellBeside(int others, int foes) {
            letters[6] = others;
            letters[7] = foes;
        }

        /** The worth of a move; who sits beside is told ahead. */
        int worthOf(Office office, int clerk, int from, int to) {
            letters[0] = clerk;
            letters[1] = from;
            letters[2] = to;
            letters[3] = office.lengths[from * MOST + to];
            letters[4] = office.rank[clerk];
            letters[5] = office.papers[clerk];
            top = 0;
            boolean skipped = false;
            for (int i = 0; i < code.length; i++) {
                int item = code[i];
                if (skipped) {
                    skipped = item != WORTH;
                } else if (item == WORTH) {
                    return pop();
                } else if (item == ASK) {
                    skipped = pop() == 0;
                } else if (item >= 0) {
                    push(item);
                } else if (item >= -letters.length) {
                    push(letters[-1 - item]);
                } else if (item == -'!') {
                    push(1 - pop());
                } else {
                    int right = pop();
                    push(joined(-item, pop(), right));
                }
            }
            return 0;
        }

        private void push(int value) {
            if (top < DEEPEST) {
                stack[top] = value;
                top++;
            }
        }

        private int pop() {
            if (top <= 0) {
                return 0;
            }
            top--;
            return stack[top];
        }

        private static int joined(int sign, int left, int right) {
            switch (sign) {
                case '=':
                    return left == right ? 1 : 0;
                case '<':
                    return left < right ? 1 : 0;
                case '>':
                    return left > right ? 1 : 0;
                case '&':
                    return left & right;
                case '|':
                    return left | right;
                case '/':
                    return right == 0 ? 0 : left / right;
                default:
                    break;
            }
            long value = (long) left * right;
            if (sign != '*') {
                value = sign == '+' ? left + right : left - right;
            }
            if (value > GREATEST) {
                return GREATEST;
            }
            return value < -GREATEST ? -GREATEST : (int) value;
        }
    }

    /** Reads the tape as a law. Where a method answers false, the tape stands at the fault. */
    static final class LawReader {
        private static final int NESTED = 6;
        private static final int DIGITS = 4;

        private final Tape tape;
        // No sign of the tape makes more than one item, but for the end's own.
        private final int[] items = new int[Tape.LONGEST + 1];
        private int size;
        private boolean looksBeside;

        LawReader(Tape tape) {
            this.tape = tape;
        }

        boolean isRead() {
            tape.at = 0;
            size = 0;
            looksBeside = false;
            for (int i = 0; i <= Tape.LONGEST; i++) {
                if (!readClause()) {
                    return false;
                }
                if (tape.look() == Tape.END) {
                    return true;
                }
                if (!tape.takes(';')) {
                    return false;
                }
            }
            return false;
        }

        Law makeLaw() {
            return new Law(Arrays.copyOf(items, size), looksBeside);
        }

        private void emit(int item) {
            if (size < items.length) {
                items[size] = item;
                size++;
            }
        }

        private boolean readClause() {
            if (!tape.takes('y') || !tape.takes(':')) {
                return false;
            }
            int sign = tape.look();
            boolean asks = sign == '!' || sign == '(';
            // Only behind a first sum can be seen whether it begins a condition.
            if (!asks && !readSum(0)) {
                return false;
            }
            if (asks || isComparison(tape.look())) {
                if (!readCondition(0, !asks) || !tape.takes('?')) {
                    return false;
                }
                emit(Law.ASK);
                if (!readSum(0)) {
                    return false;
                }
            }
            emit(Law.WORTH);
            return true;
        }

        private static boolean isComparison(int sign) {
            return sign == '=' || sign == '<' || sign == '>';
        }

        /** Begun: its first sum is read already. */
        private boolean readCondition(int depth, boolean begun) {
            if (!readTruth(depth, begun)) {
                return false;
            }
            for (int i = 0; i <= Tape.LONGEST && tape.takes('|'); i++) {
                if (!readTruth(depth, false)) {
                    return false;
                }
                emit(-'|');
            }
            return true;
        }

        private boolean readTruth(int depth, boolean begun) {
            if (!readUnit(depth, begun)) {
                return false;
            }
            for (int i = 0; i <= Tape.LONGEST && tape.takes('&'); i++) {
                if (!readUnit(depth, false)) {
                    return false;
                }
                emit(-'&');
            }
            return true;
        }

        private boolean readUnit(int depth, boolean begun) {
            if (!begun && tape.look() == '!') {
                return readNot(depth);
            }
            if (!begun && tape.look() == '(') {
                return depth < NESTED && tape.takes('(') && readCondition(depth + 1, false) && tape.takes(')');
            }
            if (!begun && !readSum(depth)) {
                return false;
            }
            int sign = tape.look();
            if (!isComparison(sign) || !tape.takes(sign) || !readSum(depth)) {
                return false;
            }
            emit(-sign);
            return true;
        }

        private boolean readNot(int depth) {
            if (depth >= NESTED || !tape.takes('!') || !readUnit(depth + 1, false)) {
                return false;
            }
            emit(-'!');
            return true;
        }

        private boolean readSum(int depth) {
            if (!readTerm(depth)) {
                return false;
            }
            for (int i = 0; i <= Tape.LONGEST; i++) {
                int sign = tape.look();
                if (sign != '+' && sign != '-') {
                    return true;
                }
                if (!tape.takes(sign) || !readTerm(depth)) {
                    return false;
                }
                emit(-sign);
            }
            return true;
        }

        private boolean readTerm(int depth) {
            if (!readAtom(depth)) {
                return false;
            }
            for (int i = 0; i <= Tape.LONGEST; i++) {
                int sign = tape.look();
                if (sign != '*' && sign != '/') {
                    return true;
                }
                if (!tape.takes(sign) || !readAtom(depth)) {
                    return false;
                }
                emit(-sign);
            }
            return true;
        }

        private boolean readAtom(int depth) {
            int sign = tape.look();
            if (sign == '[') {
                return depth < NESTED && tape.takes('[') && readSum(depth + 1) && tape.takes(']');
            }
            if (isDigit(sign)) {
                return readNumber();
            }
            for (int i = 0; i < Law.LETTERS.length(); i++) {
                if (Law.LETTERS.charAt(i) == sign) {
                    looksBeside |= sign == 'b' || sign == 'q';
                    emit(-1 - i);
                    return tape.takes(sign);
                }
            }
            return false;
        }

        private static boolean isDigit(int sign) {
            return sign >= '0' && sign <= '9';
        }

        private boolean readNumber() {
            int value = 0;
            for (int digits = 0; digits < DIGITS && isDigit(tape.look()); digits++) {
                value = value * 10 + tape.look() - '0';
                tape.at++;
            }
            emit(value);
            return !isDigit(tape.look());
        }
    }

    /** A row of moves that is judged. */
    static final class Plan {
        private static final int LONGEST = 40;
        private static final int TWICE = 5;
        private static final int RANK = 6;
        private static final int QUARREL = 7;

        /** 16 times the clerk and the desk. */
        private final int[] moves = new int[LONGEST];
        int size;
        private final int[] before = new int[MOST];

        int wrong;
        int why;
        int cost;

        /** Whether the tape is a plan; if not, the tape stands at the fault. */
        boolean isReadFrom(Tape tape) {
            size = 0;
            tape.at = 0;
            for (int i = 0; i < LONGEST; i++) {
                int clerk = tape.look() - 'A';
                if (clerk < 0 || clerk >= MOST) {
                    return false;
                }
                tape.at++;
                int desk = tape.look() - 'a';
                if (desk < 0 || desk >= MOST) {
                    return false;
                }
                tape.at++;
                moves[i] = 16 * clerk + desk;
                size = i + 1;
                if (tape.look() == Tape.END) {
                    return true;
                }
                if (size == LONGEST || !tape.takes(',')) {
                    return false;
                }
            }
            return false;
        }

        /** Judges; the office is as before then. */
        void follow(Office office, Law law, int rules) {
            wrong = NONE;
            why = 0;
            cost = 0;
            int moved = 0;
            int highest = 0;
            System.arraycopy(office.seat, 0, before, 0, MOST);
            for (int i = 0; i < size && i < LONGEST && why == 0; i++) {
                int clerk = moves[i] >> 4;
                int desk = moves[i] & 15;
                why = office.hindrance(law, clerk, desk);
                if (why == 0) {
                    boolean twice = (moved >> clerk & 1) != 0;
                    why = broken(rules, twice, highest > office.rank[clerk]);
                }
                if (why == 0) {
                    int price = office.costOf(clerk, desk);
                    office.put(clerk, desk);
                    why = (rules & 4) != 0 && office.foesSitBeside() ? QUARREL : 0;
                    cost += why == 0 ? price : 0;
                    moved |= 1 << clerk;
                    highest = Math.max(highest, office.rank[clerk]);
                }
                wrong = why == 0 ? NONE : i;
            }
            office.seatAs(before);
        }

        private static int broken(int rules, boolean twice, boolean behindHigher) {
            if ((rules & 1) != 0 && twice) {
                return TWICE;
            }
            return (rules & 2) != 0 && behindHigher ? RANK : 0;
        }
    }

    /** The latest moves, and an image of them and of the seating. */
    static final class Diary {
        private static final int LONGEST = 100;

        /** 256 times the desk it came from, 16 times the clerk, and the desk it went to. */
        private final int[] moves = new int[LONGEST];
        int size;
        boolean kept;
        private final int[] keptMoves = new int[LONGEST];
        private int keptSize;
        private final int[] keptSeats = new int[MOST];

        void clear() {
            size = 0;
            kept = false;
        }

        void write(int clerk, int from, int to) {
            if (size == LONGEST) {
                System.arraycopy(moves, 1, moves, 0, LONGEST - 1);
                size--;
            }
            moves[size] = 256 * from + 16 * clerk + to;
            size++;
        }

        void takeBack(Office office) {
            if (size > 0) {
                size--;
                office.put(moves[size] >> 4 & 15, moves[size] >> 8);
            }
        }

        int moveAt(int i) {
            return i >= 0 && i < size ? moves[i] & 255 : NONE;
        }

        void keep(Office office) {
            kept = true;
            keptSize = size;
            System.arraycopy(moves, 0, keptMoves, 0, LONGEST);
            System.arraycopy(office.seat, 0, keptSeats, 0, MOST);
        }

        void restore(Office office) {
            size = keptSize;
            System.arraycopy(keptMoves, 0, moves, 0, LONGEST);
            office.seatAs(keptSeats);
        }
    }

    /**
     * All seatings that can be come to, in the order of their fewest moves and, of alike
     * numbers, of the least row of moves: so the first that is as wished ends the row due.
     * A seating is a number: three bits for each clerk's desk, the lowest clerk's lowest.
     */
    static final class Ways {
        static final int DEEPEST = 60;
        /** By desks: how many seatings there can be, and bits of a table with room for them. */
        private static final int[] SEATINGS = {1, 1, 2, 6, 24, 120, 720, 5040, 40320};
        private static final int[] TABLE_BITS = {3, 3, 3, 4, 6, 8, 11, 13, 16};
        private static final int SPREADING = 0x9E3779B1;

        /** Desks for which the rows are long enough. */
        final int room;
        final int[] code;
        private final int[] parent;
        /** Hashed seatings: base, 1 and the number of the seating; lower ones are of the past. */
        private final int[] table;
        private int base;
        int count;
        int far;
        final int[] levels = new int[DEEPEST + 1];

        private Office office;
        private Law law;
        int clerks;
        final int[] who = new int[SEARCHED];
        /** The seating that is looked at: desks of its clerks, bits of the desks they sit at. */
        final int[] at = new int[SEARCHED];
        int full;

        /** By move and who sits beside: twice the stamp, and whether it is let. */
        private final int[] known;
        private int stamp;

        private int goalMask;
        private int goalCode;
        private int goalEmpty;

        Ways(int desks) {
            room = Math.max(2, Math.min(desks, SEARCHED));
            code = new int[SEATINGS[room]];
            parent = new int[SEATINGS[room]];
            table = new int[1 << TABLE_BITS[room]];
            known = new int[room * room * room * room * room];
        }

        void explore(Office of, Law by) {
            base += count;
            count = 0;
            far = 0;
            stamp++;
            office = of;
            law = by;
            Arrays.fill(levels, 0);
            add(startCode(), NONE);
            levels[0] = 1;
            int levelEnd = 1;
            for (int i = 0; i < count && i < code.length; i++) {
                if (i == levelEnd) {
                    far++;
                    if (far <= DEEPEST) {
                        levels[far] = count - levelEnd;
                    }
                    levelEnd = count;
                }
                spread(i);
            }
        }

        private int startCode() {
            clerks = 0;
            int start = 0;
            for (int c = 0; c < MOST && clerks < SEARCHED; c++) {
                if (office.hasClerk(c)) {
                    who[clerks] = c;
                    start |= office.place[c] << 3 * clerks;
                    clerks++;
                }
            }
            return start;
        }

        private void spread(int i) {
            open(i);
            for (int c = 0; c < clerks; c++) {
                int targets = targetsOf(c);
                for (int to = 0; to < SEARCHED && targets >> to != 0; to++) {
                    if ((targets >> to & 1) != 0 && isLet(c, to)) {
                        add(codeAfter(i, c, to), i);
                    }
                }
            }
        }

        void open(int i) {
            int rest = code[i];
            int taken = 0;
            for (int c = 0; c < clerks; c++) {
                int desk = rest & 7;
                at[c] = desk;
                taken |= 1 << desk;
                rest >>= 3;
            }
            full = taken;
        }

        /** Bits of the empty desks behind a door of the clerk's. */
        int targetsOf(int c) {
            return office.beside[at[c]] & ~full;
        }

        int priceOf(int c, int to) {
            return office.papers[who[c]] * office.lengths[at[c] * MOST + to];
        }

        int codeAfter(int i, int c, int to) {
            return code[i] ^ (at[c] ^ to) << 3 * c;
        }

        /** Worths are kept: a law says alike of a move as long as those beside are alike. */
        boolean isLet(int c, int to) {
            if (law == null) {
                return true;
            }
            int others = 0;
            int foes = 0;
            if (law.looksBeside) {
                others = Integer.bitCount(office.beside[to] & full & ~(1 << at[c]));
                foes = foesBeside(c, to);
            }
            int key = (((c * room + at[c]) * room + to) * room + others) * room + foes;
            if (key < 0 || key >= known.length) {
                return false;
            }
            if (known[key] >> 1 != stamp) {
                law.tellBeside(others, foes);
                int worth = law.worthOf(office, who[c], at[c], to);
                known[key] = 2 * stamp + (worth > 0 ? 1 : 0);
            }
            return (known[key] & 1) != 0;
        }

        private int foesBeside(int c, int to) {
            int foes = office.foes[who[c]];
            int near = 0;
            for (int other = 0; other < clerks && foes != 0; other++) {
                near += foes >> who[other] & office.beside[to] >> at[other] & 1;
            }
            return near;
        }

        private void add(int seating, int from) {
            int slot = slotOf(seating);
            if (table[slot] <= base && count < code.length) {
                code[count] = seating;
                parent[count] = from;
                count++;
                table[slot] = base + count;
            }
        }

        /** Where the seating stands in the table or, if it is not there, where it goes. */
        private int slotOf(int seating) {
            int last = table.length - 1;
            int slot = seating * SPREADING >>> 32 - TABLE_BITS[room];
            for (int i = 0; i < last && table[slot] > base && code[table[slot] - base - 1] != seating; i++) {
                slot = slot + 1 & last;
            }
            return slot;
        }

        /** The number of a seating that was come to; NONE for others. */
        int numberOf(int seating) {
            int slot = slotOf(seating);
            return table[slot] > base ? table[slot] - base - 1 : NONE;
        }

        /** The goal is what is wished; of a clerk who is ill, the wishes that it hinders are left out. */
        void aim(Office wishing, int ill) {
            goalMask = 0;
            goalCode = 0;
            goalEmpty = 0;
            for (int d = 0; d < wishing.desks; d++) {
                int wish = wishing.wishes[d];
                boolean leftOut = ill != NONE && (wish == ill || wishing.seat[d] == ill);
                if (wish == EMPTY && !leftOut) {
                    goalEmpty |= 1 << d;
                }
                for (int c = 0; c < clerks && !leftOut; c++) {
                    if (who[c] == wish) {
                        goalMask |= 7 << 3 * c;
                        goalCode |= d << 3 * c;
                    }
                }
            }
        }

        boolean isMet(int i) {
            if ((code[i] & goalMask) != goalCode) {
                return false;
            }
            for (int c = 0; c < clerks && goalEmpty != 0; c++) {
                if ((goalEmpty >> (code[i] >> 3 * c & 7) & 1) != 0) {
                    return false;
                }
            }
            return true;
        }

        int firstMet() {
            for (int i = 0; i < count; i++) {
                if (isMet(i)) {
                    return i;
                }
            }
            return NONE;
        }

        int depthOf(int i) {
            int depth = 0;
            for (int up = i; depth < count && up > 0; up = parent[up]) {
                depth++;
            }
            return depth;
        }

        /** The move of that number on the row to a seating; NONE if it has no such. */
        int moveTowards(int goal, int number) {
            int depth = depthOf(goal);
            if (number < 0 || number >= depth) {
                return NONE;
            }
            int i = goal;
            for (int up = depth - 1; up > number; up--) {
                i = parent[i];
            }
            int changed = code[i] ^ code[parent[i]];
            for (int c = 0; c < clerks; c++) {
                if ((changed >> 3 * c & 7) != 0) {
                    return 16 * who[c] + (code[i] >> 3 * c & 7);
                }
            }
            return NONE;
        }
    }

    /** The least costs of the seatings that can be come to, from the lowest on. */
    static final class Costs {
        /** More than a move can cost: so each chain holds seatings of one cost alone. */
        private static final int CHAINS = 128;
        private static final int UNSEEN = -1;
        private static final int MOST_COST = 81 * 40320;

        final int[] cost;
        private final int[] next;
        private final int[] last;
        private final int[] heads = new int[CHAINS];
        private int waiting;

        Costs(int seatings) {
            int size = Math.max(1, seatings);
            cost = new int[size];
            next = new int[size];
            last = new int[size];
        }

        /** The least cost to the goal of the ways, with one clerk ill or none; NONE: none. */
        int leastToGoal(Ways ways, int ill) {
            Arrays.fill(heads, NONE);
            for (int i = 0; i < ways.count; i++) {
                cost[i] = UNSEEN;
            }
            waiting = 0;
            reach(0, 0);
            for (int price = 0; price <= MOST_COST && waiting > 0; price++) {
                int head = heads[price % CHAINS];
                for (int n = 0; n < ways.count && head != NONE; n++) {
                    if (ways.isMet(head)) {
                        return price;
                    }
                    unlink(head);
                    spread(ways, head, ill);
                    head = heads[price % CHAINS];
                }
            }
            return NONE;
        }

        private void spread(Ways ways, int i, int ill) {
            ways.open(i);
            for (int c = 0; c < ways.clerks; c++) {
                int clerk = ways.who[c];
                int targets = clerk == ill ? 0 : ways.targetsOf(c);
                for (int to = 0; to < SEARCHED && targets >> to != 0; to++) {
                    if ((targets >> to & 1) != 0 && ways.isLet(c, to)) {
                        int price = ways.priceOf(c, to);
                        reach(ways.numberOf(ways.codeAfter(i, c, to)), cost[i] + price);
                    }
                }
            }
        }

        private void reach(int i, int price) {
            if (i < 0 || i >= cost.length || cost[i] != UNSEEN && cost[i] <= price) {
                return;
            }
            if (cost[i] != UNSEEN) {
                unlink(i);
            }
            cost[i] = price;
            int chain = price % CHAINS;
            next[i] = heads[chain];
            last[i] = NONE;
            if (next[i] != NONE) {
                last[next[i]] = i;
            }
            heads[chain] = i;
            waiting++;
        }

        private void unlink(int i) {
            if (last[i] == NONE) {
                heads[cost[i] % CHAINS] = next[i];
            } else {
                next[last[i]] = next[i];
            }
            if (next[i] != NONE) {
                last[next[i]] = last[i];
            }
            waiting--;
        }
    }

    /** What turns of whole offices can come to, by the shape of their doors. */
    static final class Turns {
        static final int APART = 0;
        static final int HINGED = 1;
        static final int RING = 2;
        static final int CROSSED = 3;
        static final int COLOURED = 4;
        static final int OTHER = 5;

        private final int[] round = new int[MOST];
        private final int[] now = new int[MOST];
        private final int[] then = new int[MOST];

        /** NONE: no office, or more than one desk is empty. */
        int kindOf(Office office) {
            if (office.desks == 0 || office.desks - Integer.bitCount(office.clerks) != 1) {
                return NONE;
            }
            int all = (1 << office.desks) - 1;
            if (!areJoined(office, all)) {
                return APART;
            }
            if (office.desks == 2) {
                return HINGED;
            }
            int ends = 0;
            for (int d = 0; d < office.desks; d++) {
                if (!areJoined(office, all & ~(1 << d))) {
                    return HINGED;
                }
                ends += Integer.bitCount(office.beside[d]);
            }
            if (ends == 2 * office.desks) {
                return RING;
            }
            if (office.desks == 7 && ends == 16 && isCrossed(office)) {
                return CROSSED;
            }
            int first = colourOf(office, 0);
            return (first & behind(office, first)) == 0 ? COLOURED : OTHER;
        }

        private static boolean areJoined(Office office, int desks) {
            int joined = desks & -desks;
            for (int i = 0; i < MOST; i++) {
                joined |= behind(office, joined) & desks;
            }
            return joined == desks;
        }

        /** Bits of all desks behind doors of these. */
        private static int behind(Office office, int desks) {
            int found = 0;
            for (int d = 0; d < office.desks; d++) {
                found |= (desks >> d & 1) != 0 ? office.beside[d] : 0;
            }
            return found;
        }

        /**
         * Of seven desks and eight doors without a hinge two desks have three doors, with three
         * ways between; only if one of these alone is a way of two, the others are of three.
         */
        private static boolean isCrossed(Office office) {
            int corners = 0;
            int common = -1;
            for (int d = 0; d < office.desks; d++) {
                if (Integer.bitCount(office.beside[d]) == 3) {
                    corners |= 1 << d;
                    common &= office.beside[d];
                }
            }
            return (corners & behind(office, corners)) == 0 && Integer.bitCount(common) == 1;
        }

        /** Bits of the desks that an even number of doors parts from this one. */
        private static int colourOf(Office office, int desk) {
            int even = 1 << desk;
            for (int i = 0; i < MOST; i++) {
                even |= behind(office, behind(office, even));
            }
            return even;
        }

        /** Whether the clerks sit round the ring in the order that is wished. */
        boolean sameRound(Office office) {
            goRound(office);
            int sitting = 0;
            int wished = 0;
            for (int i = 0; i < office.desks; i++) {
                int d = round[i];
                if (office.seat[d] != NONE) {
                    now[sitting] = office.seat[d];
                    sitting++;
                }
                if (office.wishes[d] != EMPTY) {
                    then[wished] = office.wishes[d];
                    wished++;
                }
            }
            return sitting == wished && isTurned(sitting);
        }

        private void goRound(Office office) {
            round[0] = 0;
            int past = NONE;
            for (int i = 1; i < office.desks; i++) {
                int here = round[i - 1];
                int next = 0;
                for (int d = office.desks - 1; d >= 0; d--) {
                    next = (office.beside[here] >> d & 1) != 0 && d != past ? d : next;
                }
                round[i] = next;
                past = here;
            }
        }

        private boolean isTurned(int size) {
            for (int shift = 0; shift < size; shift++) {
                int alike = 0;
                for (int i = 0; i < size; i++) {
                    int turned = i + shift < size ? i + shift : i + shift - size;
                    alike += now[i] == then[turned] ? 1 : 0;
                }
                if (alike == size) {
                    return true;
                }
            }
            return false;
        }

        /** Whether the exchanges to the wished seating are even or odd as the empty desks' colours ask. */
        boolean evenAsDue(Office office) {
            int seen = 0;
            int exchanges = office.desks;
            int empties = 0;
            for (int d = 0; d < office.desks; d++) {
                if ((seen >> d & 1) == 0) {
                    exchanges--;
                    int here = d;
                    for (int i = 0; i < MOST && (seen >> here & 1) == 0; i++) {
                        seen |= 1 << here;
                        here = wishedPlace(office, office.seat[here]);
                    }
                }
                empties |= office.seat[d] == NONE || office.wishes[d] == EMPTY ? 1 << d : 0;
            }
            int coloured = colourOf(office, 0) & empties;
            boolean unlike = coloured != empties && coloured != 0;
            return exchanges % 2 == (unlike ? 1 : 0);
        }

        private static int wishedPlace(Office office, int who) {
            int due = who == NONE ? EMPTY : who;
            int found = 0;
            for (int d = 0; d < office.desks; d++) {
                found = office.wishes[d] == due ? d : found;
            }
            return found;
        }
    }

    /** Worths of desks: the best seating, false wishes, exchanges. */
    static final class Wealth {
        private static final int LIE = 99;

        /** By bits of the desks that the lowest clerks have: the most that the others can have. */
        private int[] sums = new int[4];
        private final int[] told = new int[MOST * MOST];
        private final int[] who = new int[MOST];
        private int clerks;

        private boolean solved;
        private int bestSum;
        private final int[] bestDesk = new int[MOST];
        /** Bits of the clerks whose gain is known. */
        private int lied;
        final int[] gain = new int[MOST];
        final int[] gainDesk = new int[MOST];

        final int[] got = new int[MOST];
        private final int[] pointed = new int[MOST];
        private int clerksLeft;
        private int desksLeft;

        void forget() {
            solved = false;
            lied = 0;
        }

        int greatestSum(Office office) {
            solveTruth(office);
            return bestSum;
        }

        int greatestDesk(Office office, int clerk) {
            solveTruth(office);
            return bestDesk[clerk];
        }

        private void solveTruth(Office office) {
            if (solved) {
                return;
            }
            clerks = 0;
            for (int c = 0; c < MOST; c++) {
                if (office.hasClerk(c)) {
                    who[clerks] = c;
                    clerks++;
                }
            }
            System.arraycopy(office.worths, 0, told, 0, told.length);
            sumUp(office.desks);
            bestSum = sums[0];
            for (int i = 0; i < clerks; i++) {
                bestDesk[who[i]] = deskOf(who[i], office.desks);
            }
            solved = true;
        }

        private void sumUp(int desks) {
            int sets = 1 << Math.min(desks, MOST);
            if (sums.length < sets) {
                sums = new int[sets];
            }
            for (int taken = sets - 1; taken >= 0; taken--) {
                sums[taken] = mostBehind(taken, desks);
            }
        }

        private int mostBehind(int taken, int desks) {
            int number = Integer.bitCount(taken);
            if (number >= clerks) {
                return 0;
            }
            int row = who[number] * MOST;
            int most = 0;
            for (int d = 0; d < desks; d++) {
                if ((taken >> d & 1) == 0) {
                    most = Math.max(most, told[row + d] + sums[taken | 1 << d]);
                }
            }
            return most;
        }

        /** The clerk's desk in the first best seating of those told. */
        private int deskOf(int clerk, int desks) {
            int taken = 0;
            for (int i = 0; i < clerks; i++) {
                int chosen = NONE;
                for (int d = desks - 1; d >= 0; d--) {
                    boolean free = (taken >> d & 1) == 0;
                    if (free && told[who[i] * MOST + d] + sums[taken | 1 << d] == sums[taken]) {
                        chosen = d;
                    }
                }
                if (who[i] == clerk || chosen == NONE) {
                    return chosen;
                }
                taken |= 1 << chosen;
            }
            return NONE;
        }

        void lie(Office office, int clerk) {
            solveTruth(office);
            if ((lied >> clerk & 1) != 0) {
                return;
            }
            int truth = office.worthAt(clerk, bestDesk[clerk]);
            int row = clerk * MOST;
            gainDesk[clerk] = NONE;
            for (int d = 0; d < office.desks; d++) {
                for (int other = 0; other < office.desks; other++) {
                    told[row + other] = other == d ? LIE : 0;
                }
                sumUp(office.desks);
                int more = office.worthAt(clerk, deskOf(clerk, office.desks)) - truth;
                if (gainDesk[clerk] == NONE || more > gain[clerk]) {
                    gain[clerk] = more;
                    gainDesk[clerk] = d;
                }
            }
            System.arraycopy(office.worths, row, told, row, MOST);
            lied |= 1 << clerk;
        }

        void exchangeAll(Office office) {
            clerksLeft = office.clerks;
            desksLeft = (1 << office.desks) - 1;
            for (int step = 0; step < MOST && clerksLeft != 0; step++) {
                pointAll(office);
                int clerk = firstAtNobodys(office);
                if (clerk != NONE) {
                    give(clerk);
                } else {
                    giveRing(office);
                }
            }
        }

        private void pointAll(Office office) {
            for (int c = 0; c < MOST; c++) {
                if ((clerksLeft >> c & 1) != 0) {
                    int liked = office.place[c];
                    for (int d = 0; d < office.desks; d++) {
                        boolean better = office.worthAt(c, d) > office.worthAt(c, liked);
                        liked = better && (desksLeft >> d & 1) != 0 ? d : liked;
                    }
                    pointed[c] = liked;
                }
            }
        }

        /** The lowest clerk that points to a desk of no clerk left. */
        private int firstAtNobodys(Office office) {
            for (int c = 0; c < MOST; c++) {
                if ((clerksLeft >> c & 1) != 0 && ownerOf(office, pointed[c]) == NONE) {
                    return c;
                }
            }
            return NONE;
        }

        private int ownerOf(Office office, int desk) {
            int owner = office.hasDesk(desk) ? office.seat[desk] : NONE;
            return owner != NONE && (clerksLeft >> owner & 1) != 0 ? owner : NONE;
        }

        private void give(int clerk) {
            got[clerk] = pointed[clerk];
            clerksLeft &= ~(1 << clerk);
            desksLeft &= ~(1 << pointed[clerk]);
        }

        private void giveRing(Office office) {
            for (int c = 0; c < MOST; c++) {
                int ring = (clerksLeft >> c & 1) != 0 ? ringOf(office, c) : 0;
                if (ring != 0) {
                    for (int member = 0; member < MOST; member++) {
                        if ((ring >> member & 1) != 0) {
                            give(member);
                        }
                    }
                    return;
                }
            }
        }

        /** Bits of the clerks on the ring through this one; 0 if it is on none. */
        private int ringOf(Office office, int clerk) {
            int ring = 0;
            int here = clerk;
            for (int i = 0; i < MOST && here != NONE; i++) {
                ring |= 1 << here;
                here = ownerOf(office, pointed[here]);
                if (here == clerk) {
                    return ring;
                }
            }
            return 0;
        }
    }
}
