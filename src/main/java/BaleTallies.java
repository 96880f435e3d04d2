/**
 * Bales landed from a ship, counted by the ship's clerk and by the shore's, and set against the
 * bills by which they were sent. Every row is made in a constructor and used again, so that no
 * later call makes an object.
 */
public final class BaleTallies {
    public static final int NONE = -1;

    private static final int DOUBTFUL = -2;
    private static final int STRANGE = -3;
    private static final int WRONG = -2;
    private static final int NO_HOLD = -1000000;

    private static final int MOST_BYTES = 600;
    private static final int FED_BYTES = 20;
    private static final int MOST_BILLS = 12;
    private static final int MOST_LINES = 60;
    private static final int MOST_SOURCES = MOST_BILLS + MOST_LINES;
    private static final int MOST_COUPLES = 8;
    private static final int MOST_SIGNS = 8;
    private static final int MOST_REMARKS = 6;
    private static final int MOST_DEEDS = 20;
    private static final int MOST_BALES = 999;
    private static final int MOST_WORTH = 9999;
    private static final int MOST_LIMIT = 20;
    private static final int MOST_FAR = 24;
    private static final int MOST_DAYS = 99;
    private static final int MOST_RATE = 999;
    private static final int MOST_SETTLED = 5;
    private static final int HOLDS = 5;
    private static final int SIGN_PLACES = 10;
    private static final int ITEM_BYTES = 20;

    private final Cargo cargo;
    private final Tape tape;
    private final Tallies tallies;
    private final Matching matching;
    private final Flow flow;
    private final Settling settling;
    private final Deed[] deeds;
    private int deedCount;
    private int latestDeed;
    private final int[] written;
    private int writtenSize;

    public BaleTallies() {
        cargo = new Cargo();
        tape = new Tape();
        tallies = new Tallies(cargo);
        matching = new Matching(cargo, tallies);
        flow = new Flow(cargo, matching);
        settling = new Settling(cargo, tallies);
        deeds = new Deed[MOST_DEEDS];
        for (int i = 0; i < MOST_DEEDS; i++) {
            deeds[i] = new Deed();
        }
        written = new int[MOST_BILLS * ITEM_BYTES];
    }

    public int feed(int a, int b, int c, int d, int e) {
        if (tape.size + FED_BYTES > MOST_BYTES) {
            return NONE;
        }
        tape.add(a);
        tape.add(b);
        tape.add(c);
        tape.add(d);
        tape.add(e);
        return tape.size;
    }

    public int end(int n) {
        if (!within(n, 0, tape.size)) {
            return NONE;
        }
        tape.size = n;
        return n;
    }

    public int text() {
        int bills = cargo.billCount;
        int lines = cargo.lineCount;
        int couples = cargo.signs.couples;
        int items = cargo.takeItems(tape);
        tape.size = 0;
        if (items == NONE) {
            cargo.cutTo(bills, lines, couples);
            return NONE;
        }
        noteDeed(Deed.TEXT, bills, lines, couples);
        return items;
    }

    public int law() {
        Law spare = cargo.spareLaw;
        int things = spare.takeFrom(tape);
        tape.size = 0;
        if (things == NONE) {
            return NONE;
        }
        Deed deed = noteDeed(Deed.LAW, 0, 0, 0);
        cargo.spareLaw = deed.law;
        deed.law = cargo.law;
        cargo.law = spare;
        return things;
    }

    public int fault() {
        return tape.fault;
    }

    public int is(int what) {
        tallies.refresh();
        switch (what) {
            case 0:
                return cargo.billCount;
            case 1:
                return cargo.lineCount;
            case 2:
                return cargo.signs.couples;
            case 3:
                return tallies.heapCount;
            case 4:
                return cargo.limit;
            case 5:
                return cargo.far;
            case 6:
                return cargo.pack;
            case 7:
                return deedCount;
            case 8:
                return tape.size;
            case 9:
                return tallies.linesThatAre(0);
            case 10:
                return tallies.linesThatAre(DOUBTFUL);
            case 11:
                return tallies.linesThatAre(STRANGE);
            case 12:
                return cargo.day;
            case 13:
                return cargo.charges;
            default:
                return NONE;
        }
    }

    public int bill(int b, int what) {
        if (!isBill(b)) {
            return NONE;
        }
        Bill bill = cargo.bills[b];
        switch (what) {
            case 0:
                return bill.count;
            case 1:
                return bill.worth;
            case 2:
                return Signs.sizeOf(bill.mark);
            case 3:
                return bill.remarks;
            case 4:
                return bill.claim;
            default:
                return Signs.octetAt(bill.mark, what);
        }
    }

    public int line(int k, int what) {
        if (!isLine(k)) {
            return NONE;
        }
        Line line = cargo.lines[k];
        switch (what) {
            case 0:
                return line.side;
            case 1:
                return line.hold;
            case 2:
                return line.n;
            case 3:
                return Signs.sizeOf(line.seen);
            default:
                return Signs.octetAt(line.seen, what);
        }
    }

    public int apart(int k, int b) {
        if (!isLine(k) || !isBill(b)) {
            return NONE;
        }
        return cargo.gapsOf(k)[b];
    }

    public int read(int k) {
        if (!isLine(k)) {
            return NONE;
        }
        tallies.refresh();
        return tallies.reading[k];
    }

    public int least(int k) {
        if (!isLine(k)) {
            return NONE;
        }
        int[] gaps = cargo.gapsOf(k);
        int b = cargo.readBy(gaps, MOST_LIMIT);
        return b >= 0 ? gaps[b] : NONE;
    }

    public int heap(int h, int what) {
        matchAll();
        if (!within(h, 0, tallies.heapCount - 1)) {
            return NONE;
        }
        int source = MOST_BILLS + h;
        switch (what) {
            case 0:
                return tallies.firstLine[h];
            case 1:
                return tallies.ship[source];
            case 2:
                return tallies.shore[source];
            case 3:
                return tallies.agreed[source];
            case 4:
                return matching.yet[source];
            default:
                return NONE;
        }
    }

    public int tally(int b, int what) {
        if (!isBill(b)) {
            return NONE;
        }
        matchAll();
        switch (what) {
            case 0:
                return tallies.ship[b];
            case 1:
                return tallies.shore[b];
            case 2:
                return tallies.agreed[b];
            case 3:
                return cargo.bills[b].dueBales();
            case 4:
                return matching.wanted[b];
            case 5:
                return matching.offered[b];
            case 6:
                return matching.lack[b];
            case 7:
                return matching.yet[b];
            case 8:
                return matching.broughtTo(b);
            default:
                return NONE;
        }
    }

    public int brought(int s, int b) {
        matchAll();
        boolean isHeap = within(s, MOST_BILLS, matching.sources - 1);
        if (!isBill(b) || !isBill(s) && !isHeap) {
            return NONE;
        }
        return matching.moved[s][b];
    }

    public int matched(int what) {
        if (!within(what, 0, 1)) {
            return NONE;
        }
        matchAll();
        return what == 0 ? matching.bales : matching.apartInAll;
    }

    public int best(int what) {
        if (!within(what, 0, 1)) {
            return NONE;
        }
        matchAll();
        flow.refresh();
        return what == 0 ? flow.bales : flow.apartInAll;
    }

    public int remark(int b, int kind, int n) {
        if (!isBill(b) || !within(kind, 0, 3) || !within(n, 0, MOST_BALES)) {
            return NONE;
        }
        Bill bill = cargo.bills[b];
        if (bill.remarks >= MOST_REMARKS) {
            return NONE;
        }
        noteDeed(Deed.REMARK, b, 0, 0);
        bill.addRemark(kind, n);
        return bill.remarks;
    }

    public int remarked(int b, int i, int what) {
        if (!isBill(b) || !within(i, 0, cargo.bills[b].remarks - 1) || !within(what, 0, 1)) {
            return NONE;
        }
        Bill bill = cargo.bills[b];
        return what == 0 ? bill.kinds[i] : bill.amounts[i];
    }

    public int claim(int b, int n) {
        if (!isBill(b) || !within(n, 0, MOST_BALES)) {
            return NONE;
        }
        Bill bill = cargo.bills[b];
        int was = bill.claim;
        noteDeed(Deed.CLAIM, b, was, 0);
        bill.claim = n;
        return was;
    }

    public int limit(int n) {
        if (!within(n, 0, MOST_LIMIT)) {
            return NONE;
        }
        int was = cargo.limit;
        noteDeed(Deed.LIMIT, was, 0, 0);
        cargo.limit = n;
        return was;
    }

    public int far(int n) {
        if (!within(n, 0, MOST_FAR)) {
            return NONE;
        }
        int was = cargo.far;
        noteDeed(Deed.FAR, was, 0, 0);
        cargo.far = n;
        return was;
    }

    public int pack(int n) {
        if (!within(n, 1, MOST_WORTH)) {
            return NONE;
        }
        int was = cargo.pack;
        noteDeed(Deed.PACK, was, 0, 0);
        cargo.pack = n;
        return was;
    }

    public int paid(int b) {
        if (b != NONE && !isBill(b)) {
            return WRONG;
        }
        matchAll();
        if (b != NONE) {
            return paidFor(b);
        }
        int sum = 0;
        for (int i = 0; i < cargo.billCount; i++) {
            sum += paidFor(i);
        }
        return sum;
    }

    public int against(int hold, int what) {
        if (!isHold(hold) || !within(what, 0, 1)) {
            return NONE;
        }
        return what == 0 ? cargo.setAgainst(hold) / Cargo.LEFT_OUT : cargo.setAgainst(hold) % Cargo.LEFT_OUT;
    }

    public int hold(int hold, int what) {
        if (!isHold(hold)) {
            return NONE;
        }
        tallies.refresh();
        switch (what) {
            case 0:
            case 1:
                return cargo.balesIn(hold, what);
            case 2:
            case 3:
                return cargo.linesIn(hold, what - 2);
            case 4:
                return cargo.marksIn(hold);
            case 5:
                return tallies.unreadIn(hold);
            default:
                return NONE;
        }
    }

    public int close(int hold) {
        return isHold(hold) ? cargo.surplusIn(hold) : NO_HOLD;
    }

    public int blame(int hold, int what) {
        if (!isHold(hold) || !within(what, 0, 1)) {
            return WRONG;
        }
        int surplus = cargo.surplusIn(hold);
        int first = NONE;
        int many = 0;
        for (int k = 0; k < cargo.lineCount && surplus != 0; k++) {
            if (cargo.lines[k].hold == hold && cargo.lines[k].couldMend(surplus)) {
                first = many == 0 ? k : first;
                many++;
            }
        }
        return what == 0 ? many : first;
    }

    public int worn(int b, int what) {
        if (!isBill(b) || !within(what, 0, 1)) {
            return WRONG;
        }
        long mark = cargo.bills[b].mark;
        int first = NONE;
        int many = 0;
        for (int i = 0; i < Signs.sizeOf(mark); i++) {
            if (cargo.readSeen(Signs.wearAt(mark, i)) != b) {
                first = many == 0 ? i : first;
                many++;
            }
        }
        return what == 0 ? many : first;
    }

    public int twin(int b, int what) {
        if (!isBill(b) || !within(what, 0, 1)) {
            return NONE;
        }
        int nearest = NONE;
        int least = NONE;
        for (int i = 0; i < cargo.billCount; i++) {
            int gap = cargo.signs.gap(cargo.bills[i].mark, cargo.bills[b].mark);
            if (i != b && (nearest == NONE || gap < least)) {
                nearest = i;
                least = gap;
            }
        }
        return what == 0 ? nearest : least;
    }

    public int shed(int b) {
        if (!isBill(b)) {
            return NONE;
        }
        matchAll();
        return balesInShed(b);
    }

    public int days(int n) {
        if (!within(n, 1, MOST_DAYS)) {
            return NONE;
        }
        noteDeed(Deed.DAYS, cargo.day, 0, 0);
        cargo.day = Math.min(MOST_DAYS, cargo.day + n);
        return cargo.day;
    }

    public int rate(int free, int each) {
        if (!within(free, 0, MOST_DAYS) || !within(each, 0, MOST_RATE)) {
            return NONE;
        }
        noteDeed(Deed.RATE, cargo.free, cargo.rate, 0);
        cargo.free = free;
        cargo.rate = each;
        return cargo.chargeEach();
    }

    public int deliver(int b, int n) {
        if (!isBill(b)) {
            return NONE;
        }
        matchAll();
        if (!within(n, 1, balesInShed(b))) {
            return NONE;
        }
        int charge = n * cargo.chargeEach();
        noteDeed(Deed.DELIVER, b, n, charge);
        cargo.bills[b].delivered += n;
        cargo.charges += charge;
        return charge;
    }

    public int gone(int b) {
        return isBill(b) ? cargo.bills[b].delivered : NONE;
    }

    public int settled(int k) {
        tallies.refresh();
        if (!settling.gather()) {
            return NONE;
        }
        return k == NONE ? settling.leastInAll() : settling.billFor(k);
    }

    public int cure(int k) {
        tallies.refresh();
        if (!isLine(k) || tallies.reading[k] >= 0 || cargo.signs.couples >= MOST_COUPLES) {
            return NONE;
        }
        long seen = cargo.lines[k].seen;
        for (int i = 0; i < Signs.sizeOf(seen); i++) {
            int sign = Signs.signAt(seen, i);
            int other = sign == Signs.WORN ? 0 : cargo.cureFor(k, sign);
            if (other != 0) {
                return 256 * Signs.octetOf(sign) + Signs.octetOf(other);
            }
        }
        return NONE;
    }

    public int strike(int k) {
        if (!isLine(k)) {
            return NONE;
        }
        Deed deed = noteDeed(Deed.STRIKE, k, 0, 0);
        deed.line = cargo.takeOut(k, deed.line);
        return cargo.lineCount;
    }

    public int back() {
        if (deedCount == 0) {
            return NONE;
        }
        deeds[latestDeed].undo(cargo);
        latestDeed = latestDeed == 0 ? MOST_DEEDS - 1 : latestDeed - 1;
        deedCount--;
        forgetAnswers();
        return deedCount;
    }

    public int write() {
        writtenSize = 0;
        for (int b = 0; b < cargo.billCount; b++) {
            Bill bill = cargo.bills[b];
            put('b');
            for (int i = 0; i < Signs.sizeOf(bill.mark); i++) {
                put(Signs.octetOf(Signs.signAt(bill.mark, i)));
            }
            put(':');
            putNumber(bill.count);
            put('*');
            putNumber(bill.worth);
            put(';');
        }
        return writtenSize;
    }

    public int octet(int k) {
        return within(k, 0, writtenSize - 1) ? written[k] : NONE;
    }

    private static boolean within(int n, int low, int high) {
        return n >= low && n <= high;
    }

    private boolean isBill(int b) {
        return within(b, 0, cargo.billCount - 1);
    }

    private boolean isLine(int k) {
        return within(k, 0, cargo.lineCount - 1);
    }

    private static boolean isHold(int hold) {
        return within(hold, 0, HOLDS - 1);
    }

    private void put(int octet) {
        if (writtenSize < written.length) {
            written[writtenSize] = octet;
            writtenSize++;
        }
    }

    private void putNumber(int n) {
        boolean begun = false;
        for (int unit = 1000; unit >= 1; unit /= 10) {
            int digit = n / unit % 10;
            begun = begun || digit != 0;
            if (begun) {
                put('0' + digit);
            }
        }
    }

    /** Whoever looks at what is matched asks for this first. */
    private void matchAll() {
        tallies.refresh();
        matching.refresh();
    }

    private int paidFor(int b) {
        Bill bill = cargo.bills[b];
        return bill.worthOf(Math.min(bill.claim, matching.lack[b]), Math.min(bill.worth, cargo.pack));
    }

    private int balesInShed(int b) {
        Bill bill = cargo.bills[b];
        int landed = Math.min(tallies.agreed[b], bill.dueBales());
        return Math.max(0, landed + matching.broughtTo(b) - bill.delivered);
    }

    /** The oldest of twenty deeds gives its place to the newest, so that it can't be taken back any more. */
    private Deed noteDeed(int kind, int a, int b, int c) {
        latestDeed = latestDeed == MOST_DEEDS - 1 ? 0 : latestDeed + 1;
        deedCount = Math.min(MOST_DEEDS, deedCount + 1);
        Deed deed = deeds[latestDeed];
        deed.kind = kind;
        deed.a = a;
        deed.b = b;
        deed.c = c;
        forgetAnswers();
        return deed;
    }

    private void forgetAnswers() {
        tallies.fresh = false;
        matching.fresh = false;
        flow.fresh = false;
    }

    /** What was fed, and a place in it for whoever takes it apart. */
    private static final class Tape {
        final int[] bytes = new int[MOST_BYTES];
        int size;
        int at;
        int fault = NONE;

        void add(int word) {
            for (int shift = 24; shift >= 0; shift -= 8) {
                if (size < MOST_BYTES) {
                    bytes[size] = word >>> shift & 255;
                    size++;
                }
            }
        }

        void rewind() {
            at = 0;
            fault = NONE;
        }

        int next() {
            return at < size ? bytes[at] : NONE;
        }

        boolean fail(int place) {
            fault = place;
            return false;
        }

        boolean skip(int octet) {
            if (next() != octet) {
                return fail(at);
            }
            at++;
            return true;
        }

        static boolean isDigit(int octet) {
            return octet >= '0' && octet <= '9';
        }

        /** A digit from 0 to the highest, or NONE, which is a fault. */
        int digitUpTo(int highest) {
            int digit = next() - '0';
            if (!within(digit, 0, highest)) {
                fail(at);
                return NONE;
            }
            at++;
            return digit;
        }

        int digits(int most) {
            int value = 0;
            for (int last = Math.min(size, at + most); at < last && isDigit(bytes[at]); at++) {
                value = value * 10 + bytes[at] - '0';
            }
            return value;
        }

        /** A number that does not begin with 0, or 0, which is a fault. */
        int amount(int most) {
            if (!isDigit(next()) || next() == '0') {
                fail(at);
                return 0;
            }
            return digits(most);
        }

        /** A sign's code, or 0, which is a fault. */
        int sign() {
            int code = Signs.codeOf(next());
            if (code == 0) {
                fail(at);
                return 0;
            }
            at++;
            return code;
        }

        /** As many signs as stand here, eight at most; 0 if there is none, which is a fault. */
        long signs(boolean perhapsWorn) {
            long mark = 0;
            for (int i = 0; i < MOST_SIGNS; i++) {
                int code = perhapsWorn && next() == '.' ? Signs.WORN : Signs.codeOf(next());
                if (code == 0) {
                    break;
                }
                mark = Signs.append(mark, code);
                at++;
            }
            if (mark == 0) {
                fail(at);
            }
            return mark;
        }
    }

    /**
     * Signs are codes (A .. Z 1 to 26, 0 .. 9 27 to 36, worn 37), a mark is one long: six bits a
     * sign, and its size above them, so that like marks are like numbers.
     */
    private static final class Signs {
        static final int LAST = 36;
        static final int WORN = 37;
        static final int SIGN_BITS = 6;
        static final int SIZE_SHIFT = MOST_SIGNS * SIGN_BITS;
        static final int LIKE_COST = 1;
        static final int UNLIKE_COST = 3;
        static final int OUT_COST = 2;

        final int[][] costs = new int[WORN + 1][WORN + 1];
        final int[] ones = new int[MOST_COUPLES];
        final int[] others = new int[MOST_COUPLES];
        int couples;
        final int[] row = new int[MOST_SIGNS + 1];
        final int[] across = new int[MOST_SIGNS];

        Signs() {
            for (int a = 1; a <= WORN; a++) {
                for (int b = 1; b <= WORN; b++) {
                    boolean worn = a == WORN || b == WORN;
                    costs[a][b] = a == b ? 0 : worn ? LIKE_COST : UNLIKE_COST;
                }
            }
        }

        static int codeOf(int octet) {
            if (within(octet, 'A', 'Z')) {
                return octet - 'A' + 1;
            }
            return within(octet, '0', '9') ? octet - '0' + 27 : 0;
        }

        static int octetOf(int code) {
            if (code == WORN) {
                return '.';
            }
            return code <= 26 ? code - 1 + 'A' : code - 27 + '0';
        }

        static long append(long mark, int code) {
            int size = sizeOf(mark);
            return mark + ((long) code << size * SIGN_BITS) + (1L << SIZE_SHIFT);
        }

        static int sizeOf(long mark) {
            return (int) (mark >>> SIZE_SHIFT);
        }

        static int signAt(long mark, int i) {
            return (int) (mark >>> i * SIGN_BITS) & 63;
        }

        static boolean has(long mark, int code) {
            for (int i = 0; i < sizeOf(mark); i++) {
                if (signAt(mark, i) == code) {
                    return true;
                }
            }
            return false;
        }

        static long wearAt(long mark, int i) {
            return mark + ((long) (WORN - signAt(mark, i)) << i * SIGN_BITS);
        }

        /** The octet that the face asks for by 10 and its place. */
        static int octetAt(long mark, int what) {
            if (!within(what, SIGN_PLACES, SIGN_PLACES + sizeOf(mark) - 1)) {
                return NONE;
            }
            return octetOf(signAt(mark, what - SIGN_PLACES));
        }

        boolean areLike(int one, int other) {
            return costs[one][other] == LIKE_COST;
        }

        void setCost(int one, int other, int cost) {
            costs[one][other] = cost;
            costs[other][one] = cost;
        }

        void addCouple(int one, int other) {
            if (couples < MOST_COUPLES) {
                ones[couples] = one;
                others[couples] = other;
                couples++;
                setCost(one, other, LIKE_COST);
            }
        }

        void cutCouples(int count) {
            for (int i = Math.max(0, count); i < couples; i++) {
                setCost(ones[i], others[i], UNLIKE_COST);
            }
            couples = Math.min(couples, count);
        }

        /** The least cost of going from one mark to the other, either of them perhaps worn. */
        int gap(long seen, long mark) {
            int size = sizeOf(mark);
            row[0] = 0;
            for (int j = 0; j < size; j++) {
                across[j] = signAt(mark, j);
                row[j + 1] = row[j] + OUT_COST;
            }
            int down = sizeOf(seen);
            for (int i = 0; i < down; i++) {
                int[] cost = costs[signAt(seen, i)];
                int corner = row[0];
                row[0] = corner + OUT_COST;
                for (int j = 0; j < size; j++) {
                    int stand = corner + cost[across[j]];
                    int leave = Math.min(row[j], row[j + 1]) + OUT_COST;
                    corner = row[j + 1];
                    row[j + 1] = Math.min(stand, leave);
                }
            }
            return row[size];
        }
    }

    /** A bill, with what was remarked, claimed and delivered of it. */
    private static final class Bill {
        static final int SHUT_OUT = 0;
        static final int TORN = 1;
        static final int WET = 2;

        long mark;
        int count;
        int worth;
        int claim;
        int delivered;
        int remarks;
        final int[] kinds = new int[MOST_REMARKS];
        final int[] amounts = new int[MOST_REMARKS];

        void begin(long newMark, int newCount, int newWorth) {
            mark = newMark;
            count = newCount;
            worth = newWorth;
            claim = 0;
            delivered = 0;
            remarks = 0;
        }

        void addRemark(int kind, int n) {
            if (remarks < MOST_REMARKS) {
                kinds[remarks] = kind;
                amounts[remarks] = n;
                remarks++;
            }
        }

        int dueBales() {
            int bales = count;
            for (int i = 0; i < remarks; i++) {
                if (kinds[i] == SHUT_OUT) {
                    bales -= amounts[i];
                }
            }
            return Math.max(0, bales);
        }

        /** What is paid for bales of this worth each, once the remarks have taken off. */
        int worthOf(int bales, int each) {
            int sum = bales * each;
            for (int i = 0; i < remarks; i++) {
                int spoilt = Math.min(amounts[i], bales) * each;
                if (kinds[i] == TORN) {
                    sum -= spoilt / 2;
                } else if (kinds[i] == WET) {
                    sum -= spoilt / 4;
                } else if (kinds[i] != SHUT_OUT) {
                    sum /= 2;
                }
                sum = Math.max(0, sum);
            }
            return sum;
        }
    }

    /** A line, with how far it is apart from the first bills, as many as were measured. */
    private static final class Line {
        static final int SHIP = 0;

        int side;
        int hold;
        int n;
        long seen;
        int measured;
        final int[] gaps = new int[MOST_BILLS];

        /** Whether another number of this line alone would take away what the ship's has more. */
        boolean couldMend(int surplus) {
            return within(side == SHIP ? n - surplus : n + surplus, 1, MOST_BALES);
        }
    }

    /** All that deeds change: bills, lines, couples, the law and the settings. */
    private static final class Cargo {
        /** A cost counts so much more than a line left out that both fit into one int. */
        static final int LEFT_OUT = 64;

        final Signs signs = new Signs();
        final Bill[] bills = new Bill[MOST_BILLS];
        int billCount;
        final Line[] lines = new Line[MOST_LINES];
        int lineCount;
        Law law = new Law();
        Law spareLaw = new Law();
        int limit = 4;
        int far = 8;
        int pack = 500;
        int day;
        int free = 5;
        int rate = 1;
        int charges;
        final int[] trial = new int[MOST_BILLS];
        final int[] shoreLines = new int[MOST_LINES];
        final int[] row = new int[MOST_LINES + 1];

        Cargo() {
            for (int b = 0; b < MOST_BILLS; b++) {
                bills[b] = new Bill();
            }
            for (int k = 0; k < MOST_LINES; k++) {
                lines[k] = new Line();
            }
        }

        /** How many items came; NONE behind a fault, where the caller cuts what came ahead of it. */
        int takeItems(Tape tape) {
            int couplesBefore = signs.couples;
            int items = 0;
            tape.rewind();
            while (items < MOST_BYTES && tape.at < tape.size) {
                int kind = tape.next();
                boolean well = kind == 'b' ? takeBill(tape)
                    : kind == '~' ? takeCouple(tape)
                    : kind == 't' ? takeLine(tape)
                    : tape.fail(tape.at);
                if (!well) {
                    return NONE;
                }
                items++;
            }
            if (signs.couples != couplesBefore) {
                keepMeasured(0);
            }
            return items;
        }

        private boolean takeBill(Tape tape) {
            if (billCount >= MOST_BILLS) {
                return tape.fail(tape.at);
            }
            tape.at++;
            int first = tape.at;
            long mark = tape.signs(false);
            if (mark == 0) {
                return false;
            }
            if (isTold(mark)) {
                return tape.fail(first);
            }
            int count = tape.skip(':') ? tape.amount(3) : 0;
            int worth = count != 0 && tape.skip('*') ? tape.amount(4) : 0;
            if (worth == 0 || !tape.skip(';')) {
                return false;
            }
            bills[billCount].begin(mark, count, worth);
            billCount++;
            return true;
        }

        private boolean isTold(long mark) {
            for (int b = 0; b < billCount; b++) {
                if (bills[b].mark == mark) {
                    return true;
                }
            }
            return false;
        }

        private boolean takeCouple(Tape tape) {
            if (signs.couples >= MOST_COUPLES) {
                return tape.fail(tape.at);
            }
            tape.at++;
            int first = tape.at;
            int one = tape.sign();
            int other = one == 0 ? 0 : tape.sign();
            if (other == 0) {
                return false;
            }
            if (one == other || signs.areLike(one, other)) {
                return tape.fail(first);
            }
            if (!tape.skip(';')) {
                return false;
            }
            signs.addCouple(one, other);
            return true;
        }

        private boolean takeLine(Tape tape) {
            if (lineCount >= MOST_LINES) {
                return tape.fail(tape.at);
            }
            tape.at++;
            int side = tape.digitUpTo(1);
            int hold = side != NONE && tape.skip('@') ? tape.digitUpTo(HOLDS - 1) : NONE;
            long seen = hold != NONE && tape.skip(':') ? tape.signs(true) : 0;
            int n = seen != 0 && tape.skip('#') ? tape.amount(3) : 0;
            if (n == 0 || !tape.skip(';')) {
                return false;
            }
            Line line = lines[lineCount];
            line.side = side;
            line.hold = hold;
            line.n = n;
            line.seen = seen;
            line.measured = 0;
            lineCount++;
            return true;
        }

        void cutTo(int billsKept, int linesKept, int couplesKept) {
            boolean fewerCouples = signs.couples > couplesKept;
            billCount = billsKept;
            lineCount = linesKept;
            signs.cutCouples(couplesKept);
            keepMeasured(fewerCouples ? 0 : billsKept);
        }

        private void keepMeasured(int most) {
            for (int k = 0; k < lineCount; k++) {
                lines[k].measured = Math.min(lines[k].measured, most);
            }
        }

        /** The line that is struck; the other one is put where lines may come, so that none is made. */
        Line takeOut(int k, Line other) {
            Line struck = lines[k];
            lineCount--;
            for (int i = k; i < lineCount; i++) {
                lines[i] = lines[i + 1];
            }
            lines[lineCount] = other;
            return struck;
        }

        /**
         * The line that stood free; the struck one has its place among the lines again. Deeds go back in
         * turn, so bills and couples are those of when it was struck, and what was measured still holds.
         */
        Line putBack(int k, Line struck) {
            if (lineCount >= MOST_LINES) {
                return struck;
            }
            Line spare = lines[lineCount];
            for (int i = lineCount; i > k; i--) {
                lines[i] = lines[i - 1];
            }
            lines[k] = struck;
            lineCount++;
            return spare;
        }

        int[] gapsOf(int k) {
            Line line = lines[k];
            for (int b = line.measured; b < billCount; b++) {
                line.gaps[b] = signs.gap(line.seen, bills[b].mark);
            }
            line.measured = billCount;
            return line.gaps;
        }

        int readBy(int[] gaps, int most) {
            int found = STRANGE;
            int least = most + 1;
            for (int b = 0; b < billCount; b++) {
                if (gaps[b] < least) {
                    least = gaps[b];
                    found = b;
                } else if (gaps[b] == least && found != STRANGE) {
                    found = DOUBTFUL;
                }
            }
            return found;
        }

        int readSeen(long seen) {
            for (int b = 0; b < billCount; b++) {
                trial[b] = signs.gap(seen, bills[b].mark);
            }
            return readBy(trial, limit);
        }

        /** The first sign that cures the line as one more couple with this sign of it; 0: none. */
        int cureFor(int k, int sign) {
            for (int other = 1; other <= Signs.LAST; other++) {
                if (other != sign && !signs.areLike(sign, other) && isCure(k, sign, other)) {
                    return other;
                }
            }
            return 0;
        }

        private boolean isCure(int k, int sign, int other) {
            int[] gaps = gapsOf(k);
            long seen = lines[k].seen;
            // A couple holds both ways: the other sign may be seen where the mark has this one.
            boolean bothSeen = Signs.has(seen, other);
            boolean changed = false;
            signs.setCost(sign, other, Signs.LIKE_COST);
            for (int b = 0; b < billCount; b++) {
                long mark = bills[b].mark;
                trial[b] = gaps[b];
                if (Signs.has(mark, other) || bothSeen && Signs.has(mark, sign)) {
                    trial[b] = signs.gap(seen, mark);
                    changed = true;
                }
            }
            signs.setCost(sign, other, Signs.UNLIKE_COST);
            return changed && readBy(trial, limit) >= 0;
        }

        int chargeEach() {
            return Math.max(0, day - free) * rate;
        }

        int balesIn(int hold, int side) {
            int sum = 0;
            for (int k = 0; k < lineCount; k++) {
                if (isIn(k, hold, side)) {
                    sum += lines[k].n;
                }
            }
            return sum;
        }

        int linesIn(int hold, int side) {
            int many = 0;
            for (int k = 0; k < lineCount; k++) {
                if (isIn(k, hold, side)) {
                    many++;
                }
            }
            return many;
        }

        int marksIn(int hold) {
            int many = 0;
            for (int k = 0; k < lineCount; k++) {
                if (lines[k].hold == hold && firstSeen(k, hold)) {
                    many++;
                }
            }
            return many;
        }

        private boolean firstSeen(int k, int hold) {
            for (int i = 0; i < k; i++) {
                if (lines[i].hold == hold && lines[i].seen == lines[k].seen) {
                    return false;
                }
            }
            return true;
        }

        int surplusIn(int hold) {
            return balesIn(hold, Line.SHIP) - balesIn(hold, 1 - Line.SHIP);
        }

        private boolean isIn(int k, int hold, int side) {
            return lines[k].hold == hold && lines[k].side == side;
        }

        /** The least cost, times LEFT_OUT, and with it the fewest lines left out. */
        int setAgainst(int hold) {
            int shores = 0;
            row[0] = 0;
            for (int k = 0; k < lineCount; k++) {
                if (isIn(k, hold, 1 - Line.SHIP)) {
                    shoreLines[shores] = k;
                    row[shores + 1] = row[shores] + leavingOut(lines[k]);
                    shores++;
                }
            }
            for (int k = 0; k < lineCount; k++) {
                if (isIn(k, hold, Line.SHIP)) {
                    setAgainstShore(lines[k], shores);
                }
            }
            return row[shores];
        }

        private static int leavingOut(Line line) {
            return line.n * LEFT_OUT + 1;
        }

        private void setAgainstShore(Line ship, int shores) {
            int corner = row[0];
            row[0] = corner + leavingOut(ship);
            for (int j = 0; j < shores; j++) {
                Line shore = lines[shoreLines[j]];
                int leave = Math.min(row[j + 1] + leavingOut(ship), row[j] + leavingOut(shore));
                int stand = corner + Math.abs(ship.n - shore.n) * LEFT_OUT;
                if (stand < leave) {
                    stand += signs.gap(ship.seen, shore.seen) * LEFT_OUT;
                }
                corner = row[j + 1];
                row[j + 1] = Math.min(stand, leave);
            }
        }
    }

    /** What both sides agree on, as values and signs behind them in the order of their working. */
    private static final class Law {
        static final int MOST_THINGS = 30;
        static final int DEEPEST = 8;
        static final int MOST_DIGITS = 4;
        static final int MOST_AGREED = 1000000;

        /** Numbers stand for themselves; letters and signs are told below 0, by their octets. */
        final int[] code = new int[2 * MOST_THINGS];
        final int[] stack = new int[MOST_THINGS];
        int size;
        int things;

        int takeFrom(Tape tape) {
            size = 0;
            things = 0;
            tape.rewind();
            if (tape.size == 0) {
                return 0;
            }
            if (!takeSum(tape, 1)) {
                return NONE;
            }
            if (tape.at < tape.size) {
                tape.fail(tape.at);
                return NONE;
            }
            return things;
        }

        private boolean takeSum(Tape tape, int depth) {
            boolean well = takeProduct(tape, depth);
            for (int i = 0; i < MOST_THINGS && well && isSumSign(tape.next()); i++) {
                int sign = tape.next();
                tape.at++;
                well = takeProduct(tape, depth);
                add(-sign);
            }
            return well;
        }

        private boolean takeProduct(Tape tape, int depth) {
            boolean well = takeThing(tape, depth);
            for (int i = 0; i < MOST_THINGS && well && isProductSign(tape.next()); i++) {
                int sign = tape.next();
                tape.at++;
                well = takeThing(tape, depth);
                add(-sign);
            }
            return well;
        }

        private boolean takeThing(Tape tape, int depth) {
            if (things >= MOST_THINGS || depth > DEEPEST) {
                return tape.fail(tape.at);
            }
            things++;
            int sign = tape.next();
            if (sign == '(') {
                tape.at++;
                return takeSum(tape, depth + 1) && tape.skip(')');
            }
            if (Tape.isDigit(sign)) {
                add(tape.digits(MOST_DIGITS));
                return true;
            }
            if (sign == 's' || sign == 'o' || sign == 'c') {
                tape.at++;
                add(-sign);
                return true;
            }
            return tape.fail(tape.at);
        }

        private static boolean isSumSign(int octet) {
            return octet == '+' || octet == '-';
        }

        private static boolean isProductSign(int octet) {
            return octet == '*' || octet == '/' || octet == '<' || octet == '>';
        }

        private void add(int step) {
            if (size < code.length) {
                code[size] = step;
                size++;
            }
        }

        int agree(int ship, int shore, int count) {
            if (size == 0) {
                return Math.min(ship, shore);
            }
            int top = 0;
            for (int i = 0; i < size; i++) {
                int step = code[i];
                boolean joins = isSumSign(-step) || isProductSign(-step);
                if (joins && top >= 2) {
                    top--;
                    stack[top - 1] = join(-step, stack[top - 1], stack[top]);
                } else if (!joins && top < MOST_THINGS) {
                    stack[top] = valueOf(step, ship, shore, count);
                    top++;
                }
            }
            return Math.max(0, Math.min(MOST_AGREED, stack[0]));
        }

        private static int valueOf(int step, int ship, int shore, int count) {
            switch (-step) {
                case 's':
                    return ship;
                case 'o':
                    return shore;
                case 'c':
                    return count;
                default:
                    return step;
            }
        }

        private static int join(int sign, int left, int right) {
            switch (sign) {
                case '+':
                    return left + right;
                case '-':
                    return left - right;
                case '*':
                    return left * right;
                case '/':
                    return right == 0 ? 0 : left / right;
                case '<':
                    return Math.min(left, right);
                default:
                    return Math.max(left, right);
            }
        }
    }

    /** As what lines are read, and what both sides count of each source: bills, behind them heaps. */
    private static final class Tallies {
        final Cargo cargo;
        boolean fresh;
        final int[] reading = new int[MOST_LINES];
        final int[] firstLine = new int[MOST_LINES];
        int heapCount;
        final int[] ship = new int[MOST_SOURCES];
        final int[] shore = new int[MOST_SOURCES];
        final int[] agreed = new int[MOST_SOURCES];

        Tallies(Cargo cargo) {
            this.cargo = cargo;
        }

        void refresh() {
            if (fresh) {
                return;
            }
            fresh = true;
            heapCount = 0;
            for (int s = 0; s < MOST_SOURCES; s++) {
                ship[s] = 0;
                shore[s] = 0;
            }
            for (int k = 0; k < cargo.lineCount; k++) {
                count(k);
            }
            for (int s = 0; s < MOST_BILLS + heapCount; s++) {
                int told = s < cargo.billCount ? cargo.bills[s].count : 0;
                agreed[s] = cargo.law.agree(ship[s], shore[s], told);
            }
        }

        private void count(int k) {
            Line line = cargo.lines[k];
            int b = cargo.readBy(cargo.gapsOf(k), cargo.limit);
            reading[k] = b;
            int source = b >= 0 ? b : MOST_BILLS + heapOf(k);
            if (line.side == Line.SHIP) {
                ship[source] += line.n;
            } else {
                shore[source] += line.n;
            }
        }

        /** The heap of a line that is not read; there are never more of them than lines. */
        private int heapOf(int k) {
            long seen = cargo.lines[k].seen;
            for (int h = 0; h < heapCount; h++) {
                if (cargo.lines[firstLine[h]].seen == seen) {
                    return h;
                }
            }
            firstLine[heapCount] = k;
            heapCount++;
            return heapCount - 1;
        }

        /** How many lines are DOUBTFUL, STRANGE, or, for 0, read. */
        int linesThatAre(int what) {
            int many = 0;
            for (int k = 0; k < cargo.lineCount; k++) {
                if (Math.min(0, reading[k]) == what) {
                    many++;
                }
            }
            return many;
        }

        int unreadIn(int hold) {
            int many = 0;
            for (int k = 0; k < cargo.lineCount; k++) {
                if (cargo.lines[k].hold == hold && reading[k] < 0) {
                    many++;
                }
            }
            return many;
        }
    }

    /** Bales that come from where there are too many to bills that are short, the nearest first. */
    private static final class Matching {
        final Cargo cargo;
        final Tallies tallies;
        boolean fresh;
        final int[] offered = new int[MOST_SOURCES];
        final int[] wanted = new int[MOST_BILLS];
        final int[][] gaps = new int[MOST_SOURCES][MOST_BILLS];
        int sources;
        final int[] yet = new int[MOST_SOURCES];
        final int[] lack = new int[MOST_BILLS];
        final int[][] moved = new int[MOST_SOURCES][MOST_BILLS];
        int bales;
        int apartInAll;

        Matching(Cargo cargo, Tallies tallies) {
            this.cargo = cargo;
            this.tallies = tallies;
        }

        void refresh() {
            if (fresh) {
                return;
            }
            fresh = true;
            sources = MOST_BILLS + tallies.heapCount;
            bales = 0;
            apartInAll = 0;
            weighBills();
            for (int s = 0; s < sources; s++) {
                offered[s] = s < MOST_BILLS ? offered[s] : tallies.agreed[s];
                yet[s] = offered[s];
                measure(s);
            }
            for (int gap = 0; gap <= cargo.far; gap++) {
                for (int s = 0; s < sources; s++) {
                    if (yet[s] > 0) {
                        moveFrom(s, gap);
                    }
                }
            }
        }

        private void weighBills() {
            for (int b = 0; b < MOST_BILLS; b++) {
                int due = b < cargo.billCount ? cargo.bills[b].dueBales() : 0;
                int landed = b < cargo.billCount ? tallies.agreed[b] : 0;
                offered[b] = Math.max(0, landed - due);
                wanted[b] = Math.max(0, due - landed);
                lack[b] = wanted[b];
            }
        }

        private void measure(int s) {
            for (int b = 0; b < MOST_BILLS; b++) {
                moved[s][b] = 0;
                if (offered[s] > 0 && wanted[b] > 0) {
                    gaps[s][b] = s < MOST_BILLS
                        ? cargo.signs.gap(cargo.bills[s].mark, cargo.bills[b].mark)
                        : cargo.gapsOf(tallies.firstLine[s - MOST_BILLS])[b];
                }
            }
        }

        private void moveFrom(int s, int gap) {
            for (int b = 0; b < cargo.billCount; b++) {
                if (lack[b] > 0 && gaps[s][b] == gap) {
                    int some = Math.min(yet[s], lack[b]);
                    yet[s] -= some;
                    lack[b] -= some;
                    moved[s][b] += some;
                    bales += some;
                    apartInAll += some * gap;
                }
            }
        }

        int broughtTo(int b) {
            return wanted[b] - lack[b];
        }
    }

    /**
     * The most bales that can be brought over, least apart: again and again by the cheapest way on
     * which a source that has bales yet gives to a bill, whose own source turns to another bill.
     */
    private static final class Flow {
        static final int FARTHEST = 1000000;
        static final int MOST_WAYS = MOST_BILLS * MOST_BALES;

        final Cargo cargo;
        final Matching matching;
        boolean fresh;
        final int[] yet = new int[MOST_SOURCES];
        final int[] lack = new int[MOST_BILLS];
        final int[][] sent = new int[MOST_SOURCES][MOST_BILLS];
        final int[] way = new int[MOST_BILLS];
        final int[] giver = new int[MOST_BILLS];
        final int[] turned = new int[MOST_BILLS];
        int bales;
        int apartInAll;

        Flow(Cargo cargo, Matching matching) {
            this.cargo = cargo;
            this.matching = matching;
        }

        void refresh() {
            if (fresh) {
                return;
            }
            fresh = true;
            begin();
            // Each way brings one bale at least, and no bill wants more than 999.
            for (int i = 0; i < MOST_WAYS; i++) {
                int b = cheapestEnd();
                if (b == NONE) {
                    break;
                }
                bringTo(b);
            }
        }

        private void begin() {
            bales = 0;
            apartInAll = 0;
            for (int b = 0; b < MOST_BILLS; b++) {
                lack[b] = matching.wanted[b];
            }
            for (int s = 0; s < matching.sources; s++) {
                yet[s] = matching.offered[s];
                for (int b = 0; b < MOST_BILLS; b++) {
                    sent[s][b] = 0;
                }
            }
        }

        private boolean reaches(int s, int b) {
            return matching.wanted[b] > 0 && matching.gaps[s][b] <= cargo.far;
        }

        private int cheapestEnd() {
            goStraight();
            boolean better = true;
            for (int i = 0; i < MOST_BILLS && better; i++) {
                better = goRound();
            }
            int end = NONE;
            for (int b = 0; b < cargo.billCount; b++) {
                if (lack[b] > 0 && way[b] < FARTHEST && (end == NONE || way[b] < way[end])) {
                    end = b;
                }
            }
            return end;
        }

        private void goStraight() {
            for (int b = 0; b < MOST_BILLS; b++) {
                way[b] = FARTHEST;
                turned[b] = NONE;
            }
            for (int s = 0; s < matching.sources; s++) {
                for (int b = 0; b < cargo.billCount && yet[s] > 0; b++) {
                    if (reaches(s, b) && matching.gaps[s][b] < way[b]) {
                        way[b] = matching.gaps[s][b];
                        giver[b] = s;
                    }
                }
            }
        }

        private boolean goRound() {
            boolean better = false;
            for (int s = 0; s < matching.sources; s++) {
                for (int from = 0; from < cargo.billCount && matching.offered[s] > 0; from++) {
                    if (sent[s][from] > 0 && way[from] < FARTHEST) {
                        better = turn(s, from) || better;
                    }
                }
            }
            return better;
        }

        private boolean turn(int s, int from) {
            boolean better = false;
            int base = way[from] - matching.gaps[s][from];
            for (int to = 0; to < cargo.billCount; to++) {
                if (to != from && reaches(s, to) && base + matching.gaps[s][to] < way[to]) {
                    way[to] = base + matching.gaps[s][to];
                    giver[to] = s;
                    turned[to] = from;
                    better = true;
                }
            }
            return better;
        }

        private void bringTo(int end) {
            int some = mostTo(end);
            bales += some;
            apartInAll += some * way[end];
            lack[end] -= some;
            int b = end;
            for (int i = 0; i < MOST_BILLS && b != NONE; i++) {
                int s = giver[b];
                sent[s][b] += some;
                if (turned[b] == NONE) {
                    yet[s] -= some;
                } else {
                    sent[s][turned[b]] -= some;
                }
                b = turned[b];
            }
        }

        private int mostTo(int end) {
            int most = lack[end];
            int b = end;
            for (int i = 0; i < MOST_BILLS && b != NONE; i++) {
                int s = giver[b];
                most = Math.min(most, turned[b] == NONE ? yet[s] : sent[s][turned[b]]);
                b = turned[b];
            }
            return most;
        }
    }

    /**
     * Doubtful lines, each read as one of its nearest bills. A bill's agreed bales depend only on
     * which of these lines are read as it, so each bill is weighed by sets of them.
     */
    private static final class Settling {
        static final int SETS = 1 << MOST_SETTLED;
        static final int TOO_MANY = 1 << 29;

        final Cargo cargo;
        final Tallies tallies;
        final int[] doubtful = new int[MOST_SETTLED];
        int count;
        final int[] allowed = new int[MOST_BILLS];
        final int[][] costs = new int[MOST_BILLS][SETS];
        final int[] row = new int[SETS];

        Settling(Cargo cargo, Tallies tallies) {
            this.cargo = cargo;
            this.tallies = tallies;
        }

        /** Whether there are doubtful lines, and no more than can be settled. */
        boolean gather() {
            int many = tallies.linesThatAre(DOUBTFUL);
            if (!within(many, 1, MOST_SETTLED)) {
                return false;
            }
            count = 0;
            for (int k = 0; k < cargo.lineCount; k++) {
                if (tallies.reading[k] == DOUBTFUL && count < MOST_SETTLED) {
                    doubtful[count] = k;
                    count++;
                }
            }
            for (int b = 0; b < cargo.billCount; b++) {
                allowed[b] = 0;
                for (int i = 0; i < count; i++) {
                    allowed[b] |= isNearest(i, b) ? 1 << i : 0;
                }
                weigh(b);
            }
            return true;
        }

        private boolean isNearest(int i, int b) {
            int[] gaps = cargo.gapsOf(doubtful[i]);
            for (int other = 0; other < cargo.billCount; other++) {
                if (gaps[other] < gaps[b]) {
                    return false;
                }
            }
            return true;
        }

        private void weigh(int b) {
            Bill bill = cargo.bills[b];
            int due = bill.dueBales();
            for (int set = 0; set < 1 << count; set++) {
                // Sets with a line that can't be read as this bill are never asked for.
                if ((set & allowed[b]) == set) {
                    int ship = tallies.ship[b] + balesOf(set, Line.SHIP);
                    int shore = tallies.shore[b] + balesOf(set, 1 - Line.SHIP);
                    costs[b][set] = Math.abs(due - cargo.law.agree(ship, shore, bill.count));
                }
            }
        }

        private int balesOf(int set, int side) {
            int sum = 0;
            for (int i = 0; i < count; i++) {
                Line line = cargo.lines[doubtful[i]];
                if ((set >> i & 1) == 1 && line.side == side) {
                    sum += line.n;
                }
            }
            return sum;
        }

        /** How far all bills are apart at least, by what each of them may have yet. */
        int leastInAll() {
            int full = (1 << count) - 1;
            for (int set = 0; set <= full; set++) {
                row[set] = set == 0 ? 0 : TOO_MANY;
            }
            for (int b = 0; b < cargo.billCount; b++) {
                for (int set = full; set >= 0; set--) {
                    row[set] = leastWith(b, set);
                }
            }
            return row[full];
        }

        private int leastWith(int b, int set) {
            int least = TOO_MANY;
            int most = set & allowed[b];
            for (int part = most; part >= 0; part--) {
                if ((part & most) == part) {
                    least = Math.min(least, row[set - part] + costs[b][part]);
                }
            }
            return least;
        }

        /** The bill as which a doubtful line is read; NONE: it is none of these lines. */
        int billFor(int k) {
            int least = leastInAll();
            for (int i = 0; i < count; i++) {
                int b = fixFirst(i, least);
                if (doubtful[i] == k) {
                    return b;
                }
            }
            return NONE;
        }

        private int fixFirst(int i, int least) {
            for (int b = 0; b < cargo.billCount; b++) {
                if (isNearest(i, b)) {
                    allowOnly(i, b);
                    if (leastInAll() == least) {
                        return b;
                    }
                }
            }
            return NONE;
        }

        private void allowOnly(int i, int only) {
            for (int b = 0; b < cargo.billCount; b++) {
                allowed[b] &= ~(1 << i);
            }
            allowed[only] |= 1 << i;
        }
    }

    /** What was done, with what it takes to take it back. */
    private static final class Deed {
        static final int TEXT = 0;
        static final int LAW = 1;
        static final int REMARK = 2;
        static final int CLAIM = 3;
        static final int LIMIT = 4;
        static final int FAR = 5;
        static final int PACK = 6;
        static final int STRIKE = 7;
        static final int DAYS = 8;
        static final int RATE = 9;
        static final int DELIVER = 10;

        int kind;
        int a;
        int b;
        int c;
        Law law = new Law();
        Line line = new Line();

        void undo(Cargo cargo) {
            switch (kind) {
                case TEXT:
                    cargo.cutTo(a, b, c);
                    break;
                case LAW:
                    swapLaw(cargo);
                    break;
                case REMARK:
                    cargo.bills[a].remarks--;
                    break;
                case CLAIM:
                    cargo.bills[a].claim = b;
                    break;
                case LIMIT:
                    cargo.limit = a;
                    break;
                case FAR:
                    cargo.far = a;
                    break;
                case PACK:
                    cargo.pack = a;
                    break;
                case STRIKE:
                    line = cargo.putBack(a, line);
                    break;
                case DAYS:
                    cargo.day = a;
                    break;
                case RATE:
                    cargo.free = a;
                    cargo.rate = b;
                    break;
                default:
                    cargo.bills[a].delivered -= b;
                    cargo.charges -= c;
                    break;
            }
        }

        private void swapLaw(Cargo cargo) {
            Law undone = cargo.law;
            cargo.law = law;
            law = undone;
        }
    }
}
