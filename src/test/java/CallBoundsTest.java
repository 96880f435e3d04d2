import java.util.function.Consumer;
import java.util.function.IntUnaryOperator;
import java.util.function.ToIntFunction;

/** Promises 1 to 41: each argument at its bounds and one beyond them; a refused call leaves all as it was. */
public final class CallBoundsTest {
    private static final int LOW = Checks.LOW;
    private static final int HIGH = Checks.HIGH;
    private static final Checks c = new Checks();

    public static void main(String[] args) {
        newObject();
        feed();
        end();
        textAndLaw();
        fault();
        is();
        bill();
        line();
        apart();
        readAndLeast();
        heap();
        tally();
        brought();
        matchedAndBest();
        remark();
        remarked();
        claim();
        settings();
        paid();
        holds();
        wornAndTwin();
        shedAndGone();
        daysRateDeliver();
        settledAndCure();
        strike();
        write();
        octet();
        c.finish();
    }

    private static void due(String call, int got, int want) {
        c.due(call, got, want);
    }

    /** A call on the rich object that is refused by this answer. */
    private static void refused(String name, int answer, ToIntFunction<BaleTallies> call) {
        c.idle(name, Checks::rich, call, answer);
    }

    /** Answers from low to high are none of a refusal; beyond them and far beyond they are. */
    private static void between(String name, int low, int high, int refusal, IntUnaryOperator call) {
        for (int n = low; n <= high; n++) {
            due(name + n + " is answered", call.applyAsInt(n) == refusal ? 1 : 0, 0);
        }
        for (int n : new int[] {low - 1, high + 1, LOW, HIGH, low - 100, high + 100}) {
            due(name + n, call.applyAsInt(n), refusal);
        }
    }

    private static BaleTallies rich() {
        BaleTallies x = new BaleTallies();
        Checks.rich(x);
        return x;
    }

    private static void newObject() {
        c.part("1 a new object");
        BaleTallies x = new BaleTallies();
        due("no BILLS", x.is(0), 0);
        due("no LINES", x.is(1), 0);
        due("no couples", x.is(2), 0);
        due("no HEAPS", x.is(3), 0);
        due("no DEEDS", x.is(7), 0);
        due("an empty tape", x.is(8), 0);
        due("BILL 0", x.bill(0, 0), -1);
        due("LINE 0", x.line(0, 0), -1);
        due("it can be told an empty text", x.text(), 0);
        due("it can be told an empty law", x.law(), 0);
        for (int hold = 0; hold < 5; hold++) {
            due("CLOSE", x.close(hold), 0);
            due("nothing against anything", x.against(hold, 0) + x.against(hold, 1), 0);
        }
    }

    private static void feed() {
        c.part("2 feed");
        BaleTallies x = new BaleTallies();
        for (int i = 1; i <= 30; i++) {
            due("feed " + i, x.feed(0x74304030, 0x3A412331, 0x3B743140, 0x303A4123, 0x313B2020), 20 * i);
            due("bytes", x.is(8), 20 * i);
        }
        due("620", x.feed(0, 0, 0, 0, 0), -1);
        due("none come", x.is(8), 600);
        int[] sizes = {0, 1, 579, 580, 581, 599, 600};
        for (int size : sizes) {
            x.end(0);
            for (int i = 0; i < 30; i++) {
                x.feed(0, 0, 0, 0, 0);
            }
            x.end(size);
            due("behind " + size, x.feed(1, 2, 3, 4, 5), size <= 580 ? size + 20 : -1);
            due("bytes", x.is(8), size <= 580 ? size + 20 : size);
        }
        Consumer<BaleTallies> full = y -> {
            Checks.rich(y);
            for (int i = 0; i < 29; i++) {
                y.feed(0x3B3B3B3B, 0, 0, 0, 0);
            }
        };
        c.idle("13 and 600 would be 613", full, y -> y.feed(-1, -1, -1, -1, -1), -1);
        c.idle("581 and 20", y -> {
            full.accept(y);
            y.end(581);
        }, y -> y.feed(-1, -1, -1, -1, -1), -1);
        bytesOfFeed();
    }

    /** Each of the twenty bytes has its place: the first wrong one of a law is its fault. */
    private static void bytesOfFeed() {
        for (int place = 0; place < 20; place++) {
            int[] words = new int[5];
            for (int i = 0; i < 20; i++) {
                int octet = i == place ? 0xFF : i % 2 == 0 ? 's' : '+';
                words[i / 4] |= octet << 24 - 8 * (i % 4);
            }
            BaleTallies x = new BaleTallies();
            due("feed", x.feed(words[0], words[1], words[2], words[3], words[4]), 20);
            due("law", x.law(), -1);
            due("the wrong byte's place", x.fault(), place);
        }
    }

    private static void end() {
        c.part("3 end");
        BaleTallies x = new BaleTallies();
        due("of none", x.end(0), 0);
        due("one of none", x.end(1), -1);
        x.feed(0x732B6F2B, 0, 0, 0, 0);
        for (int n : new int[] {-1, 21, 600, LOW, HIGH}) {
            due("end of 20, " + n, x.end(n), -1);
        }
        due("all", x.end(20), 20);
        due("nothing is done", x.is(8), 20);
        due("19", x.end(19), 19);
        due("20 are no more", x.end(20), -1);
        due("19 are as they were", x.is(8), 19);
        due("the first 3", x.end(3), 3);
        due("they are the first 3", x.law(), 2);
        x.feed(0, 0, 0, 0, 0);
        due("0", x.end(0), 0);
        due("bytes", x.is(8), 0);
        due("1", x.end(1), -1);
        refused("end(-1)", -1, y -> y.end(-1));
        refused("end(14)", -1, y -> y.end(14));
        refused("end(LOW)", -1, y -> y.end(LOW));
        refused("end(HIGH)", -1, y -> y.end(HIGH));
        BaleTallies z = new BaleTallies();
        for (int i = 0; i < 30; i++) {
            z.feed(0, 0, 0, 0, 0);
        }
        due("601 of 600", z.end(601), -1);
        due("600 of 600", z.end(600), 600);
        due("599 of 600", z.end(599), 599);
    }

    private static void textAndLaw() {
        c.part("4 text, 5 law: the tape, empty then");
        BaleTallies x = new BaleTallies();
        due("ITEMS", Checks.text(x, "bA:1*1;~AB;t0@0:A#1;"), 3);
        due("empty then", x.is(8), 0);
        due("no more of it", x.text(), 0);
        due("a FAULT", Checks.text(x, "bA"), -1);
        due("empty then", x.is(8), 0);
        due("no more of it", x.text(), 0);
        due("THINGS", Checks.law(x, "s+o"), 2);
        due("empty then", x.is(8), 0);
        due("no more of it", x.law(), 0);
        due("a FAULT", Checks.law(x, "s+"), -1);
        due("empty then", x.is(8), 0);
        due("no more of it", x.law(), 0);
        due("a law is no text", Checks.text(x, "s+o"), -1);
        due("a text is no law", Checks.law(x, "bA:1*1;"), -1);
        Checks.put(x, "bB:1*1;");
        x.feed(0, 0, 0, 0, 0);
        due("bytes that were not cut off", x.text(), -1);
        due("the first of them", x.fault(), 7);
    }

    private static void fault() {
        c.part("6 fault");
        BaleTallies x = new BaleTallies();
        due("ahead of any", x.fault(), -1);
        Checks.text(x, "bA:0");
        due("of a text", x.fault(), 3);
        x.feed(1, 1, 1, 1, 1);
        x.end(0);
        x.limit(3);
        x.back();
        x.write();
        due("it stays", x.fault(), 3);
        Checks.law(x, "s+?");
        due("of a law", x.fault(), 2);
        Checks.text(x, "bA:1*1;");
        due("a text that was well", x.fault(), -1);
        Checks.text(x, "?");
        due("0", x.fault(), 0);
        Checks.law(x, "s");
        due("a law that was well", x.fault(), -1);
        Checks.law(x, "");
        due("an empty law", x.fault(), -1);
        Checks.law(x, "?");
        Checks.text(x, "");
        due("an empty text", x.fault(), -1);
        Checks.text(x, "b");
        Checks.text(x, "bB:");
        due("the latest", x.fault(), 3);
    }

    private static void is() {
        c.part("7 is");
        BaleTallies x = rich();
        between("is ", 0, 13, -1, x::is);
        int[] want = {3, 8, 1, 2, 3, 9, 600, 15, 13, 4, 2, 2, 7, 30};
        for (int what = 0; what < 14; what++) {
            due("is(" + what + ")", x.is(what), want[what]);
        }
        refused("is(-1)", -1, y -> y.is(-1));
        refused("is(14)", -1, y -> y.is(14));
    }

    private static void bill() {
        c.part("8 bill");
        BaleTallies x = rich();
        between("BILL ", 0, 2, -1, b -> x.bill(b, 0));
        between("BILL's SIGN ", 10, 13, -1, w -> x.bill(0, w));
        for (int what = 0; what <= 4; what++) {
            due("what " + what + " is answered", x.bill(2, what) == -1 ? 1 : 0, 0);
        }
        for (int what = 5; what <= 9; what++) {
            due("what " + what, x.bill(0, what), -1);
        }
        due("what -1", x.bill(0, -1), -1);
        BaleTallies y = Checks.with("bABCDEFGH:1*1;bZ:1*1;");
        between("SIGN of eight ", 10, 17, -1, w -> y.bill(0, w));
        due("the only SIGN", y.bill(1, 10), 'Z');
        due("behind it", y.bill(1, 11), -1);
        refused("bill(3,0)", -1, z -> z.bill(3, 0));
        refused("bill(-1,0)", -1, z -> z.bill(-1, 0));
        refused("bill(0,14)", -1, z -> z.bill(0, 14));
    }

    private static void line() {
        c.part("9 line");
        BaleTallies x = rich();
        between("LINE ", 0, 7, -1, k -> x.line(k, 0));
        between("LINE's SIGN ", 10, 11, -1, w -> x.line(6, w));
        for (int what = 0; what <= 3; what++) {
            due("what " + what + " is answered", x.line(7, what) == -1 ? 1 : 0, 0);
        }
        for (int what = 4; what <= 9; what++) {
            due("what " + what, x.line(0, what), -1);
        }
        due("what -1", x.line(0, -1), -1);
        BaleTallies y = Checks.with("t1@4:ABC.EFG.#1;");
        between("SIGN of eight ", 10, 17, -1, w -> y.line(0, w));
        due("worn: 46", y.line(0, 13), 46);
        due("worn: 46", y.line(0, 17), 46);
        refused("line(8,0)", -1, z -> z.line(8, 0));
        refused("line(-1,0)", -1, z -> z.line(-1, 0));
    }

    private static void apart() {
        c.part("10 apart");
        BaleTallies x = rich();
        between("LINE ", 0, 7, -1, k -> x.apart(k, 0));
        between("BILL ", 0, 2, -1, b -> x.apart(0, b));
        due("neither", x.apart(8, 3), -1);
        due("no LINE", Checks.with("bA:1*1;").apart(0, 0), -1);
        due("no BILL", Checks.with("t0@0:A#1;").apart(0, 0), -1);
        refused("apart(8,0)", -1, z -> z.apart(8, 0));
        refused("apart(0,3)", -1, z -> z.apart(0, 3));
    }

    private static void readAndLeast() {
        c.part("11 read");
        BaleTallies x = rich();
        between("LINE ", 0, 7, -1, x::read);
        int[] want = {0, 0, 1, 1, -2, -2, -3, -3};
        int[] least = {0, 0, 0, 0, -1, -1, -1, -1};
        for (int k = 0; k < 8; k++) {
            due("read(" + k + ")", x.read(k), want[k]);
            due("least(" + k + ")", x.least(k), least[k]);
        }
        refused("read(8)", -1, z -> z.read(8));
        refused("read(-1)", -1, z -> z.read(-1));
        c.part("12 least");
        between("LINE ", 0, 3, -1, x::least);
        refused("least(8)", -1, z -> z.least(8));
        refused("least(4): DOUBTFUL by any LIMIT", -1, z -> z.least(4));
    }

    private static void heap() {
        c.part("13 heap");
        BaleTallies x = rich();
        between("HEAP ", 0, 1, -1, h -> x.heap(h, 0));
        between("what ", 0, 4, -1, w -> x.heap(1, w));
        refused("heap(2,0)", -1, z -> z.heap(2, 0));
        refused("heap(-1,0)", -1, z -> z.heap(-1, 0));
        refused("heap(0,5)", -1, z -> z.heap(0, 5));
        refused("heap(0,-1)", -1, z -> z.heap(0, -1));
    }

    private static void tally() {
        c.part("14 tally");
        BaleTallies x = rich();
        between("BILL ", 0, 2, -1, b -> x.tally(b, 0));
        between("what ", 0, 8, -1, w -> x.tally(2, w));
        refused("tally(3,0)", -1, z -> z.tally(3, 0));
        refused("tally(-1,0)", -1, z -> z.tally(-1, 0));
        refused("tally(0,9)", -1, z -> z.tally(0, 9));
        refused("tally(0,-1)", -1, z -> z.tally(0, -1));
    }

    private static void brought() {
        c.part("15 brought");
        BaleTallies x = rich();
        between("from BILL ", 0, 2, -1, s -> x.brought(s, 0));
        between("from HEAP at ", 12, 13, -1, s -> x.brought(s, 0));
        between("to BILL ", 0, 2, -1, b -> x.brought(12, b));
        for (int s = 3; s < 12; s++) {
            due("from " + s, x.brought(s, 0), -1);
        }
        refused("brought(3,0)", -1, z -> z.brought(3, 0));
        refused("brought(11,0)", -1, z -> z.brought(11, 0));
        refused("brought(14,0)", -1, z -> z.brought(14, 0));
        refused("brought(-1,0)", -1, z -> z.brought(-1, 0));
        refused("brought(12,3)", -1, z -> z.brought(12, 3));
        refused("brought(12,-1)", -1, z -> z.brought(12, -1));
    }

    private static void matchedAndBest() {
        c.part("16 matched");
        BaleTallies x = rich();
        between("what ", 0, 1, -1, x::matched);
        c.part("17 best");
        between("what ", 0, 1, -1, x::best);
        refused("matched(2)", -1, z -> z.matched(2));
        refused("matched(-1)", -1, z -> z.matched(-1));
        refused("best(2)", -1, z -> z.best(2));
        refused("best(-1)", -1, z -> z.best(-1));
    }

    private static void remark() {
        c.part("18 remark");
        for (int b = 0; b < 3; b++) {
            due("BILL " + b, rich().remark(b, 0, 0), new int[] {3, 2, 1}[b]);
        }
        for (int kind = 0; kind < 4; kind++) {
            due("KIND " + kind, rich().remark(2, kind, 5), 1);
        }
        for (int n : new int[] {0, 1, 998, 999}) {
            due("N " + n, rich().remark(2, 0, n), 1);
        }
        int[][] wrong = {{-1, 0, 0}, {3, 0, 0}, {LOW, 0, 0}, {HIGH, 0, 0}, {2, -1, 0}, {2, 4, 0}, {2, LOW, 0}, {2, HIGH, 0},
            {2, 0, -1}, {2, 0, 1000}, {2, 0, LOW}, {2, 0, HIGH}, {2, 3, -1}, {2, 3, 1000}, {3, 4, 1000}};
        for (int[] w : wrong) {
            refused("remark(" + w[0] + "," + w[1] + "," + w[2] + ")", -1, x -> x.remark(w[0], w[1], w[2]));
        }
        Consumer<BaleTallies> six = x -> {
            Checks.rich(x);
            for (int i = 0; i < 4; i++) {
                x.remark(0, i, 1);
            }
        };
        c.idle("6 are there", six, x -> x.remark(0, 1, 1), -1);
        c.idle("6 are there, and it is wrong", six, x -> x.remark(0, 4, 1), -1);
    }

    private static void remarked() {
        c.part("19 remarked");
        BaleTallies x = rich();
        between("BILL ", 0, 1, -1, b -> x.remarked(b, 0, 0));
        between("REMARK ", 0, 1, -1, i -> x.remarked(0, i, 0));
        between("what ", 0, 1, -1, w -> x.remarked(0, 1, w));
        due("a BILL without any", x.remarked(2, 0, 0), -1);
        refused("remarked(3,0,0)", -1, z -> z.remarked(3, 0, 0));
        refused("remarked(0,2,0)", -1, z -> z.remarked(0, 2, 0));
        refused("remarked(0,-1,0)", -1, z -> z.remarked(0, -1, 0));
        refused("remarked(0,0,2)", -1, z -> z.remarked(0, 0, 2));
        refused("remarked(0,0,-1)", -1, z -> z.remarked(0, 0, -1));
    }

    private static void claim() {
        c.part("20 claim");
        for (int b = 0; b < 3; b++) {
            due("BILL " + b, rich().claim(b, 9), new int[] {1, 0, 3}[b]);
        }
        for (int n : new int[] {0, 1, 998, 999}) {
            BaleTallies x = rich();
            due("what it was", x.claim(2, n), 3);
            due("it is", x.bill(2, 4), n);
            due("the other's is as it was", x.bill(0, 4), 1);
        }
        int[][] wrong = {{-1, 0}, {3, 0}, {LOW, 0}, {HIGH, 0}, {0, -1}, {0, 1000}, {0, LOW}, {0, HIGH}, {3, 1000}};
        for (int[] w : wrong) {
            refused("claim(" + w[0] + "," + w[1] + ")", -1, x -> x.claim(w[0], w[1]));
        }
    }

    private static void settings() {
        c.part("21 limit: 0 to 20");
        setting(0, 20, 3, 4, BaleTallies::limit);
        c.part("22 far: 0 to 24");
        setting(0, 24, 9, 5, BaleTallies::far);
        c.part("23 pack: 1 to 9999");
        setting(1, 9999, 600, 6, BaleTallies::pack);
    }

    private interface Setting {
        int set(BaleTallies x, int n);
    }

    private static void setting(int low, int high, int was, int what, Setting setting) {
        for (int n : new int[] {low, low + 1, high - 1, high, was}) {
            BaleTallies x = rich();
            due("what it was", setting.set(x, n), was);
            due("it is", x.is(what), n);
            due("and then", setting.set(x, low), n);
            due("DEEDS", x.is(7), 17);
        }
        for (int n : new int[] {low - 1, high + 1, LOW, HIGH}) {
            refused("" + n, -1, x -> setting.set(x, n));
        }
    }

    private static void paid() {
        c.part("24 paid");
        BaleTallies x = rich();
        between("BILL ", -1, 2, -2, x::paid);
        refused("paid(3)", -2, z -> z.paid(3));
        refused("paid(-2)", -2, z -> z.paid(-2));
        due("no BILL", new BaleTallies().paid(0), -2);
        due("all of none", new BaleTallies().paid(-1), 0);
    }

    private static void holds() {
        c.part("25 against");
        BaleTallies x = rich();
        between("HOLD ", 0, 4, -1, hold -> x.against(hold, 0));
        between("what ", 0, 1, -1, what -> x.against(0, what));
        refused("against(5,0)", -1, z -> z.against(5, 0));
        refused("against(-1,0)", -1, z -> z.against(-1, 0));
        refused("against(0,2)", -1, z -> z.against(0, 2));
        refused("against(0,-1)", -1, z -> z.against(0, -1));
        c.part("26 hold");
        between("HOLD ", 0, 4, -1, hold -> x.hold(hold, 0));
        between("what ", 0, 5, -1, what -> x.hold(0, what));
        refused("hold(5,0)", -1, z -> z.hold(5, 0));
        refused("hold(-1,0)", -1, z -> z.hold(-1, 0));
        refused("hold(0,6)", -1, z -> z.hold(0, 6));
        refused("hold(0,-1)", -1, z -> z.hold(0, -1));
        c.part("27 close");
        between("HOLD ", 0, 4, -1000000, x::close);
        refused("close(5)", -1000000, z -> z.close(5));
        refused("close(-1)", -1000000, z -> z.close(-1));
        c.part("28 blame");
        between("HOLD ", 0, 4, -2, hold -> x.blame(hold, 1));
        between("what ", 0, 1, -2, what -> x.blame(0, what));
        refused("blame(5,0)", -2, z -> z.blame(5, 0));
        refused("blame(-1,0)", -2, z -> z.blame(-1, 0));
        refused("blame(0,2)", -2, z -> z.blame(0, 2));
        refused("blame(0,-1)", -2, z -> z.blame(0, -1));
    }

    private static void wornAndTwin() {
        c.part("29 worn");
        BaleTallies x = rich();
        between("BILL ", 0, 2, -2, b -> x.worn(b, 0));
        between("what ", 0, 1, -2, what -> x.worn(2, what));
        refused("worn(3,0)", -2, z -> z.worn(3, 0));
        refused("worn(-1,1)", -2, z -> z.worn(-1, 1));
        refused("worn(0,2)", -2, z -> z.worn(0, 2));
        c.part("30 twin");
        between("BILL ", 0, 2, -1, b -> x.twin(b, 0));
        between("what ", 0, 1, -1, what -> x.twin(2, what));
        refused("twin(3,0)", -1, z -> z.twin(3, 0));
        refused("twin(-1,0)", -1, z -> z.twin(-1, 0));
        refused("twin(0,2)", -1, z -> z.twin(0, 2));
    }

    private static void shedAndGone() {
        c.part("31 shed");
        BaleTallies x = rich();
        between("BILL ", 0, 2, -1, x::shed);
        refused("shed(3)", -1, z -> z.shed(3));
        refused("shed(-1)", -1, z -> z.shed(-1));
        c.part("35 gone");
        between("BILL ", 0, 2, -1, x::gone);
        refused("gone(3)", -1, z -> z.gone(3));
        refused("gone(-1)", -1, z -> z.gone(-1));
    }

    private static void daysRateDeliver() {
        c.part("32 days");
        for (int n : new int[] {1, 2, 91, 92, 93, 98, 99}) {
            due("DAYS " + n, rich().days(n), Math.min(99, 7 + n));
        }
        for (int n : new int[] {0, 100, -1, LOW, HIGH}) {
            refused("days(" + n + ")", -1, x -> x.days(n));
        }
        c.part("33 rate");
        int[][] well = {{0, 0, 0}, {0, 999, 6993}, {99, 999, 0}, {6, 1, 1}, {7, 1, 0}, {98, 0, 0}};
        for (int[] w : well) {
            due("rate(" + w[0] + "," + w[1] + ")", rich().rate(w[0], w[1]), w[2]);
        }
        int[][] wrong = {{-1, 0}, {100, 0}, {0, -1}, {0, 1000}, {LOW, 0}, {HIGH, 0}, {0, LOW}, {0, HIGH}, {-1, -1}};
        for (int[] w : wrong) {
            refused("rate(" + w[0] + "," + w[1] + ")", -1, x -> x.rate(w[0], w[1]));
        }
        c.part("34 deliver");
        int[][] some = {{0, 1, 15}, {0, 6, 90}, {0, 7, 105}, {1, 3, 45}};
        for (int[] w : some) {
            due("deliver(" + w[0] + "," + w[1] + ")", rich().deliver(w[0], w[1]), w[2]);
        }
        int[][] none = {{-1, 1}, {3, 1}, {LOW, 1}, {HIGH, 1}, {0, 0}, {0, -1}, {0, 8}, {0, LOW}, {0, HIGH}, {1, 4}, {2, 1}};
        for (int[] w : none) {
            refused("deliver(" + w[0] + "," + w[1] + ")", -1, x -> x.deliver(w[0], w[1]));
        }
    }

    private static void settledAndCure() {
        c.part("36 settled");
        BaleTallies x = rich();
        between("LINE ", 4, 5, -1, x::settled);
        due("all", x.settled(-1), 6);
        refused("settled(3)", -1, z -> z.settled(3));
        refused("settled(6)", -1, z -> z.settled(6));
        refused("settled(8)", -1, z -> z.settled(8));
        refused("settled(-2)", -1, z -> z.settled(-2));
        c.part("37 cure");
        BaleTallies y = Checks.with("bAB:1*1;t0@0:XY#1;t0@0:YX#1;t0@0:AB#1;");
        between("LINE ", 0, 1, -1, y::cure);
        due("it is READ", y.cure(2), -1);
        refused("cure(0)", -1, z -> z.cure(0));
        refused("cure(8)", -1, z -> z.cure(8));
        refused("cure(-1)", -1, z -> z.cure(-1));
    }

    private static void strike() {
        c.part("38 strike");
        for (int k = 0; k < 8; k++) {
            due("LINE " + k, rich().strike(k), 7);
        }
        for (int k : new int[] {-1, 8, LOW, HIGH, 60}) {
            refused("strike(" + k + ")", -1, x -> x.strike(k));
        }
        due("none is there", new BaleTallies().strike(0), -1);
    }

    private static void write() {
        c.part("40 write");
        for (int size = 1; size <= 8; size++) {
            for (int count : new int[] {1, 9, 10, 99, 100, 999}) {
                for (int worth : new int[] {1, 10, 100, 1000, 1001, 9999}) {
                    written("b" + "ABCDEFGH".substring(0, size) + ":" + count + "*" + worth + ";");
                }
            }
        }
        written("bA:505*5005;bB:100*1000;bC:900*9000;b0:1*1;b9:10*10;bZ:101*1010;");
        BaleTallies x = new BaleTallies();
        due("no BILLS", x.write(), 0);
        Checks.text(x, "~AB;t0@0:A#1;");
        due("no BILLS, but others", x.write(), 0);
        BaleTallies y = rich();
        due("what is told of a BILL later is not written", y.write(), 34);
        BaleTallies z = new BaleTallies();
        StringBuilder longest = new StringBuilder();
        for (int i = 0; i < 12; i++) {
            longest.append("bABCDEFG").append((char) ('M' + i)).append(":999*9999;");
        }
        due("twelve", Checks.text(z, longest.toString()), 12);
        due("the longest", z.write(), 228);
        for (int i = 0; i < 228; i++) {
            due("octet " + i, z.octet(i), longest.charAt(i));
        }
        due("behind it", z.octet(228), -1);
    }

    /** What was told is what is written, and can be told again. */
    private static void written(String text) {
        BaleTallies x = Checks.with(text);
        due("bytes of " + text, x.write(), text.length());
        StringBuilder octets = new StringBuilder();
        for (int i = 0; i < text.length(); i++) {
            octets.append((char) x.octet(i));
        }
        due(octets + " for " + text, octets.toString().equals(text) ? 1 : 0, 1);
        due("behind it", x.octet(text.length()), -1);
    }

    private static void octet() {
        c.part("41 octet");
        BaleTallies x = new BaleTallies();
        due("nothing was written", x.octet(0), -1);
        Checks.text(x, "bAB:1*1;bC:1*1;");
        due("nothing was written yet", x.octet(0), -1);
        x.write();
        between("byte ", 0, 14, -1, x::octet);
        x.back();
        due("what was written latest stays", x.octet(14), ';');
        Checks.text(x, "bXYZ:1*1;");
        due("what was written latest", x.octet(1), 'A');
        due("written anew", x.write(), 9);
        between("byte ", 0, 8, -1, x::octet);
        due("written anew", x.octet(1), 'X');
        refused("octet(34)", -1, z -> z.octet(34));
        refused("octet(-1)", -1, z -> z.octet(-1));
        BaleTallies y = rich();
        for (int i = 0; i < 15; i++) {
            y.back();
        }
        due("no BILLS", y.write(), 0);
        due("nothing is left of what was written", y.octet(0), -1);
    }
}
