/** Each promise of the document by its number, with answers worked out by hand. */
public final class PromiseTest {
    private static final int LOW = Integer.MIN_VALUE;
    private static final int HIGH = Integer.MAX_VALUE;
    private static final Checks c = new Checks();

    private static void due(String call, int got, int want) {
        c.due(call, got, want);
    }

    public static void main(String[] args) {
        newObject();
        feedAndEnd();
        texts();
        textFaults();
        laws();
        lawFaults();
        is();
        billAndLine();
        apart();
        readAndLeast();
        heap();
        tally();
        brought();
        matchedAndBest();
        remarks();
        claim();
        settings();
        paid();
        against();
        hold();
        closeAndBlame();
        worn();
        twin();
        shedAndDeliver();
        daysAndRate();
        settled();
        cure();
        strike();
        back();
        backOfEach();
        write();
        c.finish();
    }

    private static void newObject() {
        c.part("1 new");
        BaleTallies x = new BaleTallies();
        int[] want = {0, 0, 0, 0, 4, 8, 500, 0, 0, 0, 0, 0, 0, 0};
        for (int i = 0; i < want.length; i++) {
            due("is(" + i + ")", x.is(i), want[i]);
        }
        due("NONE", BaleTallies.NONE, -1);
        BaleTallies y = Checks.with("bA:1*1;");
        due("bills of y", y.is(0), 1);
        due("bills of x, which is another", x.is(0), 0);
    }

    private static void feedAndEnd() {
        c.part("2 feed");
        BaleTallies x = new BaleTallies();
        due("feed", x.feed(0x62413A31, 0x2A323B7E, 0x4142_3B00, -1, HIGH), 20);
        due("feed", x.feed(0, 0, 0, 0, 0), 40);
        due("end", x.end(11), 11);
        due("text by the highest byte first", x.text(), 2);
        due("sign", x.bill(0, 10), 'A');
        for (int i = 1; i <= 30; i++) {
            due("feed", x.feed(i, i, i, i, i), 20 * i);
        }
        due("a byte too many", x.feed(1, 1, 1, 1, 1), -1);
        due("none came", x.is(8), 600);
        due("end", x.end(581), 581);
        due("601 bytes", x.feed(1, 1, 1, 1, 1), -1);
        due("end", x.end(580), 580);
        due("600 bytes", x.feed(1, 1, 1, 1, 1), 600);
        due("a byte of 255", Checks.faultOf(x, "bB" + (char) 255), 2);
        c.part("3 end");
        x.feed(0, 0, 0, 0, 0);
        due("more than there are", x.end(21), -1);
        due("below 0", x.end(-1), -1);
        due("far below 0", x.end(LOW), -1);
        due("nothing is done", x.is(8), 20);
        due("all", x.end(20), 20);
        due("some", x.end(7), 7);
        due("no way back", x.end(8), -1);
        due("none", x.end(0), 0);
        due("tape", x.is(8), 0);
    }

    private static void texts() {
        c.part("4 text");
        BaleTallies x = new BaleTallies();
        due("empty", x.text(), 0);
        due("a deed", x.is(7), 1);
        due("items", Checks.text(x, "bABCDEFGH:999*9999;~AB;t1@4:.......Z#999;bQ:1*1;t0@0:.#1;"), 5);
        due("empty then", x.is(8), 0);
        due("bills", x.is(0), 2);
        due("couples", x.is(2), 1);
        due("lines", x.is(1), 2);
        due("fault", Checks.text(x, "bNEW:1*1;~CD;t0@0:A#1;bQ:1*1;"), -1);
        due("empty then, too", x.is(8), 0);
        due("no bill of it", x.is(0), 2);
        due("no couple of it", x.is(2), 1);
        due("no line of it", x.is(1), 2);
        due("no deed", x.is(7), 2);
        due("C and D are not like", Checks.text(x, "t0@0:CQ#1;bDQ:1*1;"), 2);
        due("C and D are not like", x.apart(2, 2), 3);
        due("what was refused can come", Checks.text(x, "bNEW:1*1;~CD;"), 2);
        due("C and D are like", x.apart(2, 2), 1);
    }

    private static void textFaults() {
        c.part("6 fault of a text");
        BaleTallies x = Checks.with("bABC:10*50;~OQ;");
        due("well", x.fault(), -1);
        String[] texts = {"x", "b", "b:", "b.", "ba", "bA", "bA:", "bA:0", "bA:01*1;", "bA:1", "bA:1;", "bA:1000*1;",
            "bA:999*", "bA:999*0;", "bA:999*10000;", "bA:999*9999", "bA:999*9999:", "bABCDEFGHI:1*1;", " bA:1*1;",
            "bA:1*1; ", "~", "~A", "~A;", "~.A;", "~A.;", "~AB", "~ABC;", "~AB;;", "t", "t2@0:A#1;", "t:", "t0",
            "t0:", "t0@", "t0@5:A#1;", "t0@0", "t0@0A#1;", "t0@0:", "t0@0:#1;", "t0@0:.........#1;", "t0@0:A",
            "t0@0:A:1;", "t0@0:A#", "t0@0:A#0;", "t0@0:A#1000;", "t0@0:A#1", "t0@0:A#1:", "t-1@0:A#1;", ";", "~;",
            "b;", "bA;", "bA:*1;", "bA:1*;", "t;", "t0;", "t0@;", "t0@0;", "t0@0:;", "t0@0:A;", "t0@0:A#;"};
        int[] places = {0, 1, 1, 1, 1, 2, 3, 3, 3, 4, 4, 6,
            7, 7, 11, 11, 11, 9, 0,
            7, 1, 2, 2, 1, 2, 3, 3, 4, 1, 1, 1, 2,
            2, 3, 3, 4, 4, 5, 5, 13, 6,
            6, 7, 7, 10, 8, 8, 1, 0, 1,
            1, 2, 3, 5, 1, 2, 3, 4, 5, 6, 7};
        for (int i = 0; i < texts.length; i++) {
            due(texts[i], Checks.faultOf(x, texts[i]), places[i]);
        }
        due("a mark that is told", Checks.faultOf(x, "bABC:1*1;"), 1);
        due("a mark that is told in this text", Checks.faultOf(x, "bD:1*1;bD:1*1;"), 8);
        due("ahead of what is behind it", Checks.faultOf(x, "bABC:0"), 1);
        due("ahead of a byte behind it", Checks.faultOf(x, "bABC?"), 1);
        due("a couple of like signs", Checks.faultOf(x, "~77;"), 1);
        due("ahead of what is behind it", Checks.faultOf(x, "~77?"), 1);
        due("a couple that is told", Checks.faultOf(x, "~OQ;"), 1);
        due("the other way round", Checks.faultOf(x, "~QO;"), 1);
        due("in this text", Checks.faultOf(x, "~AB;~BA;"), 5);
        due("the first fault", Checks.faultOf(x, "bX:1*1;bABC:1*1;~OQ;x"), 8);
        due("a longer mark", Checks.text(x, "bABCD:1*1;bAB:1*1;"), 2);
        tooMany();
    }

    private static void tooMany() {
        BaleTallies x = new BaleTallies();
        StringBuilder bills = new StringBuilder();
        for (int i = 0; i < 12; i++) {
            bills.append('b').append((char) ('A' + i)).append(":1*1;");
        }
        due("13 bills", Checks.faultOf(x, bills + "bZ:1*1;"), 84);
        due("a 13th that is only begun", Checks.faultOf(x, bills + "b"), 84);
        due("12 bills", Checks.text(x, bills.toString()), 12);
        due("one more", Checks.faultOf(x, "~AB;bA:1*1;"), 4);
        due("8 couples", Checks.text(x, "~AB;~AC;~AD;~AE;~AF;~AG;~AH;~AI;"), 8);
        due("one more", Checks.faultOf(x, "t0@0:A#1;~AA;"), 9);
        for (int i = 0; i < 59; i++) {
            Checks.text(x, "t0@0:A#1;");
        }
        due("61 lines", Checks.faultOf(x, "t0@0:A#1;t0@0:A#1;"), 9);
        due("60 lines", Checks.text(x, "t0@0:A#1;"), 1);
        due("one more", Checks.faultOf(x, "t9"), 0);
        due("lines", x.is(1), 60);
        due("in all", x.hold(0, 0), 60);
        Checks.text(x, "");
        due("well again", x.fault(), -1);
    }

    private static int agreed(BaleTallies x, String law) {
        Checks.law(x, law);
        return x.tally(0, 2);
    }

    private static void laws() {
        c.part("5 law");
        BaleTallies x = Checks.with("bA:100*1;t0@0:A#7;t1@0:A#3;t0@0:ZZZZ#9;t1@0:ZZZZ#11;");
        due("none: the lesser", x.tally(0, 2), 3);
        String[] laws = {"s", "o", "c", "0", "0007", "s+o", "s-o", "o-s", "s*o", "s/o", "s<o", "s>o", "s-o-1", "s/2/2",
            "s+o*2", "s*2+o", "(s+o)*2", "s<o+1", "s+o>9", "20/s*3", "s/0", "s/(o-3)", "(o-s)/3+5", "o<s*2", "c*9999*9999",
            "9999*9999*9999*9999", "c-s-o", "((s))", "5-9<3>2"};
        int[] want = {7, 3, 100, 0, 7, 10, 4, 0, 21, 2, 3, 7, 3, 1,
            13, 17, 20, 4, 16, 6, 0, 0, 4, 6, 1000000,
            0, 90, 7, 2};
        want[25] = Math.max(0, Math.min(1000000, 9999 * 9999 * 9999 * 9999));
        for (int i = 0; i < laws.length; i++) {
            due(laws[i], agreed(x, laws[i]), want[i]);
        }
        due("things", Checks.law(x, "s+o"), 2);
        due("empty then", x.is(8), 0);
        due("things", Checks.law(x, "(s+o)*2"), 4);
        due("of a heap c is 0", agreed(x, "c+s"), 107);
        due("of a heap c is 0", x.heap(0, 3), 9);
        int deeds = x.is(7);
        due("fault", Checks.law(x, "s+"), -1);
        due("empty then, too", x.is(8), 0);
        due("the law stays", x.tally(0, 2), 107);
        due("no deed", x.is(7), deeds);
        due("empty", Checks.law(x, ""), 0);
        due("the lesser", x.tally(0, 2), 3);
        due("the lesser of a heap", x.heap(0, 3), 9);
    }

    private static void lawFaults() {
        c.part("6 fault of a law");
        BaleTallies x = new BaleTallies();
        String[] laws = {"+", "x", "s+", "s)", "(s", "()", "ss", "s 1", "12345", "s++o", "(s+o", "s+(o*)", "-1", "1s",
            "S", "b", "s=o", "s" + (char) 0};
        int[] places = {0, 0, 2, 1, 2, 1, 1, 1, 4, 2, 4, 5, 0, 1, 0, 0, 1, 1};
        for (int i = 0; i < laws.length; i++) {
            due(laws[i], Checks.lawFault(x, laws[i]), places[i]);
        }
        String thirty = "s+".repeat(29);
        due("30 things", Checks.law(x, thirty + "s"), 30);
        due("well", x.fault(), -1);
        due("31 things", Checks.lawFault(x, thirty + "s+o"), 60);
        due("a bracket is a thing", Checks.lawFault(x, thirty + "(s)"), 59);
        due("8 within one another", Checks.law(x, "(((((((s)))))))"), 8);
        due("a ninth one", Checks.lawFault(x, "((((((((s))))))))"), 8);
        due("wide, not deep", Checks.law(x, "(s)+(s)+(s)+(s)+(s)+(s)+(s)+(s)+(s)"), 18);
        due("a fault stays", Checks.lawFault(x, "?"), 0);
        due("until a text", Checks.text(x, "bA:1*1;"), 1);
        due("that is well", x.fault(), -1);
    }

    private static void is() {
        c.part("7 is");
        BaleTallies x = Checks.with("bABC:10*50;bABD:5*700;~O0;t0@0:ABC#4;t1@0:ABC#5;t0@0:AB.#3;t0@1:XYZ#2;t1@0:ABD#5;");
        int[] want = {2, 5, 1, 2, 4, 8, 500, 1, 0, 3, 1, 1, 0, 0};
        for (int i = 0; i < want.length; i++) {
            due("is(" + i + ")", x.is(i), want[i]);
        }
        x.limit(0);
        x.far(24);
        x.pack(1);
        x.days(9);
        x.rate(5, 3);
        Checks.law(x, "s>o");
        x.deliver(0, 2);
        x.feed(1, 2, 3, 4, 5);
        int[] then = {2, 5, 1, 2, 0, 24, 1, 8, 20, 3, 0, 2, 9, 24};
        for (int i = 0; i < then.length; i++) {
            due("is(" + i + ") then", x.is(i), then[i]);
        }
        for (int what : new int[] {-1, 14, LOW, HIGH}) {
            due("is(" + what + ")", x.is(what), -1);
        }
    }

    private static void billAndLine() {
        c.part("8 bill");
        BaleTallies x = Checks.with("bAZ09:999*9999;bQ:1*1;t1@4:A.9#999;t0@0:..#1;");
        int[] want = {999, 9999, 4, 0, 0, -1, -1, -1, -1, -1, 65, 90, 48, 57, -1};
        for (int i = 0; i < want.length; i++) {
            due("bill(0," + i + ")", x.bill(0, i), want[i]);
        }
        x.remark(1, 3, 0);
        x.claim(1, 7);
        due("remarks", x.bill(1, 3), 1);
        due("claim", x.bill(1, 4), 7);
        due("count", x.bill(1, 0), 1);
        due("sign behind its mark", x.bill(1, 11), -1);
        for (int b : new int[] {-1, 2, LOW, HIGH}) {
            due("bill(" + b + ",0)", x.bill(b, 0), -1);
        }
        due("what", x.bill(0, LOW), -1);
        due("what", x.bill(0, HIGH), -1);
        c.part("9 line");
        int[] seen = {1, 4, 999, 3, -1, -1, -1, -1, -1, -1, 65, 46, 57, -1};
        for (int i = 0; i < seen.length; i++) {
            due("line(0," + i + ")", x.line(0, i), seen[i]);
        }
        due("side", x.line(1, 0), 0);
        due("hold", x.line(1, 1), 0);
        due("worn", x.line(1, 11), 46);
        due("no sign", x.line(1, 12), -1);
        for (int k : new int[] {-1, 2, LOW, HIGH}) {
            due("line(" + k + ",0)", x.line(k, 0), -1);
        }
        due("what", x.line(0, LOW), -1);
        due("what", x.line(0, HIGH), -1);
    }

    private static int gap(String seen, String mark, String couples) {
        return Checks.with("b" + mark + ":1*1;" + couples + "t0@0:" + seen + "#1;").apart(0, 0);
    }

    private static void apart() {
        c.part("10 apart");
        due("alike", gap("ABC", "ABC", ""), 0);
        due("worn", gap("A.C", "ABC", ""), 1);
        due("like", gap("A0C", "AOC", "~O0;"), 1);
        due("like, the other way round", gap("A0C", "AOC", "~0O;"), 1);
        due("unlike", gap("AXC", "ABC", ""), 3);
        due("left out of the mark", gap("AC", "ABC", ""), 2);
        due("left out of the seen one", gap("ABXC", "ABC", ""), 2);
        due("a worn one left out", gap("AB.C", "ABC", ""), 2);
        due("a worn one more is cheaper than a sign", gap("A.BC", "ABC", ""), 2);
        due("two left out cost less than three unlike", gap("XABCDEF", "ABCDEFX", ""), 4);
        due("all unlike", gap("AAAAAAAA", "BBBBBBBB", ""), 24);
        due("one and eight", gap("Z", "AAAAAAAA", ""), 17);
        due("one worn and eight", gap(".", "AAAAAAAA", ""), 15);
        due("like is not passed on", gap("A", "C", "~AB;~BC;"), 3);
        BaleTallies x = Checks.with("bA:1*1;t0@0:A#1;");
        for (int n : new int[] {-1, 1, LOW, HIGH}) {
            due("line " + n, x.apart(n, 0), -1);
            due("bill " + n, x.apart(0, n), -1);
        }
        Checks.text(x, "bB:1*1;t0@0:B#1;");
        due("a later bill", x.apart(0, 1), 3);
        due("a later line", x.apart(1, 0), 3);
        Checks.text(x, "~AB;");
        due("a later couple", x.apart(0, 1), 1);
        x.back();
        due("taken back", x.apart(0, 1), 3);
    }

    private static void readAndLeast() {
        c.part("11 read");
        BaleTallies x = Checks.with("bABCD:1*1;bABCE:1*1;t0@0:ABCD#1;t0@0:ABC.#1;t0@0:ABCDXX#1;t0@0:ABCDXXX#1;t0@0:ZZZZZZZZ#1;");
        due("itself", x.read(0), 0);
        due("two are so", x.read(1), -2);
        due("4 apart", x.read(2), 0);
        due("6 apart", x.read(3), -3);
        due("far", x.read(4), -3);
        x.limit(3);
        due("above the limit", x.read(2), -3);
        x.limit(0);
        due("itself", x.read(0), 0);
        due("two that are too far", x.read(1), -3);
        for (int k : new int[] {-1, 5, LOW, HIGH}) {
            due("read(" + k + ")", x.read(k), -1);
        }
        due("without bills", Checks.with("t0@0:A#1;").read(0), -3);
        c.part("12 least");
        due("itself", x.least(0), 0);
        due("two are so", x.least(1), -1);
        due("4 apart", x.least(2), 4);
        due("6 apart", x.least(3), 6);
        due("no bill", Checks.with("t0@0:A#1;").least(0), -1);
        due("17 apart", Checks.with("bAAAAAAAA:1*1;t0@0:Z#1;").least(0), 17);
        due("24 apart", Checks.with("bAAAAAAAA:1*1;t0@0:ZZZZZZZZ#1;").least(0), -1);
        due("21 apart", Checks.with("bAAAAAAAA:1*1;t0@0:ZZZZAZZZ#1;").least(0), -1);
        due("20 apart", Checks.with("bAAAAAAA:1*1;t0@0:ZZZZZZZZ#1;").least(0), -1);
        due("18 apart", Checks.with("bAAAAAAAA:1*1;t0@0:ZZZZAAZZ#1;").least(0), 18);
        due("20 apart", Checks.with("bAAAAAA:1*1;t0@0:ZZZZZZZ#1;").least(0), 20);
        for (int k : new int[] {-1, 5, LOW, HIGH}) {
            due("least(" + k + ")", x.least(k), -1);
        }
    }

    private static void heap() {
        c.part("13 heap");
        BaleTallies x = Checks.with("bAAAA:10*1;bAAAB:10*1;t0@0:AAAA#9;t0@0:ZZ#4;t1@0:AAA.#5;t1@1:ZZ#3;t0@2:AAA.#6;t0@3:ZZ#1;t1@0:Z#2;");
        int[][] want = {{1, 5, 3, 3, 3}, {2, 6, 5, 5, 0}, {6, 0, 2, 0, 0}};
        due("heaps", x.is(3), 3);
        for (int h = 0; h < 3; h++) {
            for (int w = 0; w < 5; w++) {
                due("heap(" + h + "," + w + ")", x.heap(h, w), want[h][w]);
            }
            due("what", x.heap(h, 5), -1);
            due("what", x.heap(h, -1), -1);
        }
        for (int h : new int[] {-1, 3, LOW, HIGH}) {
            due("heap(" + h + ",0)", x.heap(h, 0), -1);
        }
        x.limit(20);
        due("a limit that reads nothing more, as both are as near", x.is(3), 3);
        due("no heap at first", new BaleTallies().heap(0, 0), -1);
    }

    private static void tally() {
        c.part("14 tally");
        BaleTallies x = Checks.with("bAAAA:10*1;bAABB:3*1;bZZZZ:4*1;t0@0:AAAA#4;t1@0:AAAA#6;t0@0:AABB#5;t1@0:AAB.#9;");
        int[][] want = {{4, 6, 4, 10, 6, 0, 4, 0, 2}, {5, 9, 5, 3, 0, 2, 0, 0, 0}, {0, 0, 0, 4, 4, 0, 4, 0, 0}};
        for (int b = 0; b < 3; b++) {
            for (int w = 0; w < 9; w++) {
                due("tally(" + b + "," + w + ")", x.tally(b, w), want[b][w]);
            }
        }
        x.far(5);
        due("too far", x.tally(0, 8), 0);
        due("left", x.tally(0, 6), 6);
        due("yet", x.tally(1, 7), 2);
        x.remark(0, 0, 3);
        x.remark(0, 1, 3);
        x.remark(0, 0, 4);
        due("due", x.tally(0, 3), 3);
        due("over", x.tally(0, 5), 1);
        x.remark(0, 0, 999);
        due("due is 0 at least", x.tally(0, 3), 0);
        due("what", x.tally(0, 9), -1);
        due("what", x.tally(0, -1), -1);
        for (int b : new int[] {-1, 3, LOW, HIGH}) {
            due("tally(" + b + ",0)", x.tally(b, 0), -1);
        }
    }

    /** Bills 0, 1 short of 5 and 4; bill 2 over by 3; heaps of 2 and 9. */
    private static BaleTallies matching() {
        return Checks.with("bAAAA:5*1;bAAAB:4*1;bAABB:1*1;t0@0:AABB#4;t1@0:AABB#4;t0@0:AAA.#2;t1@0:AAA.#2;"
            + "t0@0:AXXX#9;t1@0:AXXX#9;");
    }

    private static void brought() {
        c.part("15 brought");
        BaleTallies x = matching();
        due("bills", x.tally(2, 5), 3);
        due("near first: heap 0 to bill 0", x.brought(12, 0), 2);
        due("heap 0 to bill 1", x.brought(12, 1), 0);
        due("bill 2 to bill 1", x.brought(2, 1), 3);
        due("bill 2 to bill 0", x.brought(2, 0), 0);
        due("heap 1 is 9 apart", x.brought(13, 0), 0);
        x.far(9);
        due("heap 1 to bill 0", x.brought(13, 0), 3);
        due("heap 1 to bill 1", x.brought(13, 1), 1);
        due("to one that is not short", x.brought(13, 2), 0);
        due("from one that is not over", x.brought(0, 1), 0);
        for (int n : new int[] {-1, 3, 11, LOW, HIGH}) {
            due("from " + n, x.brought(n, 0), -1);
            due("to " + n, x.brought(2, n), -1);
        }
        due("no such heap", x.brought(14, 0), -1);
        due("a heap is not to be brought to", x.brought(2, 12), -1);
        BaleTallies y = Checks.with("bAAA:9*1;bAAB:1*1;t0@0:AAB#3;t1@0:AAB#3;t0@0:CAA#3;t1@0:CAA#3;bAAC:9*1;");
        y.limit(0);
        due("a bill over ahead of a heap as near", y.brought(1, 0), 2);
        due("the lesser bill first", y.brought(1, 2), 0);
        due("then the heap", y.brought(12, 0), 3);
    }

    private static void matchedAndBest() {
        c.part("16 matched");
        BaleTallies x = matching();
        due("bales", x.matched(0), 5);
        due("apart", x.matched(1), 2 + 3 * 3);
        x.far(9);
        due("bales", x.matched(0), 9);
        due("apart", x.matched(1), 2 + 3 * 3 + 4 * 9);
        x.far(0);
        due("none so near", x.matched(0), 0);
        due("none so near", x.matched(1), 0);
        for (int w : new int[] {-1, 2, LOW, HIGH}) {
            due("matched(" + w + ")", x.matched(w), -1);
            due("best(" + w + ")", x.best(w), -1);
        }
        c.part("17 best");
        // AAA. is 1 apart from AAAA and 4 from AAXY; AAAAA is 2 from AAAA and can't reach AAXY.
        BaleTallies y = Checks.with("bAAAA:2*1;bAAXY:2*1;t0@0:AAA.#2;t1@0:AAA.#2;t0@0:AAAAA#2;t1@0:AAAAA#2;");
        y.limit(0);
        y.far(4);
        due("the near one is taken first", y.brought(12, 0), 2);
        due("the far one reaches nothing", y.matched(0), 2);
        due("all can be brought", y.best(0), 4);
        due("by 4 and by 2", y.best(1), 2 * 4 + 2 * 2);
        y.far(3);
        due("bales within 3", y.best(0), 2);
        due("the near one then", y.best(1), 2);
        due("at first", new BaleTallies().best(0), 0);
        due("at first", new BaleTallies().best(1), 0);
        chain();
        BaleTallies z = Checks.with("bAB:9*1;bCD:9*1;t0@0:A.#5;t1@0:A.#5;");
        z.limit(0);
        due("more than there are", z.best(0), 5);
        due("the nearest", z.best(1), 5);
    }

    /** A heap can be brought only when another one turns from its nearest bill to the next. */
    private static void chain() {
        BaleTallies w = Checks.with("bA:1*1;bAB:1*1;bABC:1*1;t0@0:.#1;t0@0:AX#1;t0@0:ABX#1;");
        Checks.law(w, "s");
        w.limit(0);
        w.far(3);
        due("the nearest first", w.brought(12, 0), 1);
        due("then", w.brought(13, 1), 0);
        due("then", w.brought(14, 1), 1);
        due("bales", w.matched(0), 2);
        due("apart", w.matched(1), 1 + 2);
        due("all three", w.best(0), 3);
        due("all three", w.best(1), 1 + 3 + 3);
    }

    private static void remarks() {
        c.part("18 remark");
        BaleTallies x = Checks.with("bA:10*1;bB:10*1;");
        for (int i = 0; i < 6; i++) {
            due("remark", x.remark(1, i % 4, i * 199), i + 1);
        }
        due("a seventh", x.remark(1, 0, 0), -1);
        due("another bill's", x.remark(0, 3, 999), 1);
        for (int n : new int[] {-1, 2, LOW, HIGH}) {
            due("no such bill", x.remark(n, 0, 0), -1);
        }
        due("kind", x.remark(0, 4, 0), -1);
        due("kind", x.remark(0, -1, 0), -1);
        due("n", x.remark(0, 0, 1000), -1);
        due("n", x.remark(0, 0, -1), -1);
        due("n of one that is said", x.remark(0, 3, 1000), -1);
        due("deeds", x.is(7), 8);
        c.part("19 remarked");
        for (int i = 0; i < 6; i++) {
            due("kind of " + i, x.remarked(1, i, 0), i % 4);
            due("n of " + i, x.remarked(1, i, 1), i * 199);
        }
        due("said", x.remarked(0, 0, 1), 999);
        due("no such remark", x.remarked(0, 1, 0), -1);
        due("no such remark", x.remarked(1, 6, 0), -1);
        due("no such remark", x.remarked(1, -1, 0), -1);
        due("what", x.remarked(1, 0, 2), -1);
        due("what", x.remarked(1, 0, -1), -1);
        for (int n : new int[] {-1, 2, LOW, HIGH}) {
            due("no such bill", x.remarked(n, 0, 0), -1);
            due("what", x.remarked(0, 0, n), -1);
        }
    }

    private static void claim() {
        c.part("20 claim");
        BaleTallies x = Checks.with("bA:10*1;bB:10*1;");
        due("at first", x.claim(0, 999), 0);
        due("then", x.claim(0, 0), 999);
        due("then", x.claim(0, 5), 0);
        due("wrong", x.claim(0, 1000), -1);
        due("wrong", x.claim(0, -1), -1);
        due("no such bill", x.claim(2, 1), -1);
        due("no such bill", x.claim(-1, 1), -1);
        due("it is", x.bill(0, 4), 5);
        due("the other's", x.bill(1, 4), 0);
        due("deeds", x.is(7), 4);
    }

    private static void settings() {
        BaleTallies x = new BaleTallies();
        c.part("21 limit");
        due("at first", x.limit(20), 4);
        due("then", x.limit(0), 20);
        due("the same", x.limit(0), 0);
        due("wrong", x.limit(21), -1);
        due("wrong", x.limit(-1), -1);
        due("it is", x.is(4), 0);
        c.part("22 far");
        due("at first", x.far(24), 8);
        due("then", x.far(0), 24);
        due("wrong", x.far(25), -1);
        due("wrong", x.far(-1), -1);
        due("it is", x.is(5), 0);
        c.part("23 pack");
        due("at first", x.pack(9999), 500);
        due("then", x.pack(1), 9999);
        due("wrong", x.pack(10000), -1);
        due("wrong", x.pack(0), -1);
        due("it is", x.is(6), 1);
        due("deeds, the same one too", x.is(7), 3 + 2 + 2);
    }

    private static void paid() {
        c.part("24 paid");
        BaleTallies x = Checks.with("bAA:10*51;bZZ:7*900;");
        due("no claim", x.paid(0), 0);
        x.claim(0, 3);
        due("three", x.paid(0), 153);
        x.claim(0, 999);
        due("no more than are left", x.paid(0), 510);
        x.claim(1, 1);
        due("a package at most", x.paid(1), 500);
        due("all", x.paid(-1), 1010);
        x.pack(901);
        due("its worth at most", x.paid(1), 900);
        x.claim(0, 3);
        x.remark(0, 1, 1);
        due("half of 51, cut", x.paid(0), 153 - 25);
        x.remark(0, 2, 9);
        due("a quarter of 153, cut", x.paid(0), 128 - 38);
        x.remark(0, 3, 999);
        due("by 2", x.paid(0), 45);
        x.remark(0, 0, 4);
        due("shut out takes nothing off", x.paid(0), 45);
        x.remark(0, 1, 3);
        due("0 at least", x.paid(0), 0);
        due("all", x.paid(-1), 900);
        x.remark(1, 3, 0);
        x.remark(1, 1, 1);
        due("in their order", x.paid(1), 0);
        x.back();
        x.back();
        x.remark(1, 1, 1);
        x.remark(1, 3, 0);
        due("in their order", x.paid(1), 225);
        for (int n : new int[] {-2, 2, LOW, HIGH}) {
            due("paid(" + n + ")", x.paid(n), -2);
        }
        BaleTallies y = matching();
        y.claim(0, 4);
        due("what is left behind the matching", y.paid(0), 3);
    }

    private static void against() {
        c.part("25 against");
        BaleTallies x = Checks.with("t0@0:ABC#4;t0@0:AB.#3;t1@0:ABC#5;t1@0:ABD#5;t0@1:X#2;t1@2:..#7;t0@2:..#7;t0@3:A.#5;t1@3:.A#5;");
        due("cost", x.against(0, 0), 1 + 2 + 1);
        due("left out", x.against(0, 1), 0);
        due("alone", x.against(1, 0), 2);
        due("alone", x.against(1, 1), 1);
        due("both worn", x.against(2, 0), 0);
        due("both worn", x.against(2, 1), 0);
        due("either worn", x.against(3, 0), 2);
        due("an empty hold", x.against(4, 0), 0);
        due("an empty hold", x.against(4, 1), 0);
        due("left out is cheaper", Checks.with("t0@0:AAAA#1;t1@0:BBBB#1;").against(0, 0), 2);
        due("two are left out", Checks.with("t0@0:AAAA#1;t1@0:BBBB#1;").against(0, 1), 2);
        due("as dear: none left out", Checks.with("t0@0:AB#3;t1@0:CD#3;").against(0, 1), 0);
        BaleTallies y = Checks.with("t0@0:AAAA#9;t0@0:BBBB#9;t1@0:BBBB#9;t1@0:AAAA#9;");
        due("they don't cross", y.against(0, 0), 18);
        due("they don't cross", y.against(0, 1), 2);
        due("like", Checks.with("~O0;t0@0:O0#9;t1@0:0O#9;").against(0, 0), 2);
        BaleTallies z = Checks.with("t1@0:AAAA#3;t0@0:AAAA#3;t1@0:BBBB#9;t1@0:CCCC#2;t0@0:CCCC#2;t0@0:DDDD#8;");
        due("those between are left out", z.against(0, 0), 9 + 8);
        due("those between are left out", z.against(0, 1), 2);
        BaleTallies full = new BaleTallies();
        for (int i = 0; i < 6; i++) {
            Checks.text(full, "t1@0:A#2;".repeat(10));
        }
        due("sixty of one side", full.against(0, 0), 120);
        due("sixty of one side", full.against(0, 1), 60);
        for (int n : new int[] {-1, 5, LOW, HIGH}) {
            due("against(" + n + ",0)", x.against(n, 0), -1);
            due("against(0," + n + ")", x.against(0, n), -1);
        }
        due("what", x.against(0, 2), -1);
    }

    private static void hold() {
        c.part("26 hold");
        BaleTallies x = Checks.with("bAB:9*1;t0@4:AB#7;t1@4:AB#2;t1@4:A.#3;t1@4:QQQQ#4;t0@4:QQQQ#5;t0@3:QQQQ#1;");
        int[] four = {12, 9, 2, 3, 3, 2};
        int[] three = {1, 0, 1, 0, 1, 1};
        for (int w = 0; w < 6; w++) {
            due("hold(4," + w + ")", x.hold(4, w), four[w]);
            due("hold(3," + w + ")", x.hold(3, w), three[w]);
            due("hold(0," + w + ")", x.hold(0, w), 0);
            due("hold(5," + w + ")", x.hold(5, w), -1);
            due("hold(-1," + w + ")", x.hold(-1, w), -1);
        }
        for (int n : new int[] {-1, 6, LOW, HIGH}) {
            due("hold(0," + n + ")", x.hold(0, n), -1);
        }
    }

    private static void closeAndBlame() {
        c.part("27 close");
        BaleTallies x = Checks.with("t0@0:A#7;t0@0:A#2;t1@0:A#4;t1@0:B#1;t0@1:A#3;t1@1:B#3;t1@2:A#999;t0@3:A#999;t0@3:A#999;");
        due("more", x.close(0), 4);
        due("close", x.close(1), 0);
        due("fewer", x.close(2), -999);
        due("more", x.close(3), 1998);
        due("empty", x.close(4), 0);
        for (int n : new int[] {-1, 5, LOW, HIGH}) {
            due("close(" + n + ")", x.close(n), -1000000);
            due("blame(" + n + ",0)", x.blame(n, 0), -2);
            due("blame(0," + n + ")", x.blame(0, n == -1 ? 2 : n), -2);
        }
        c.part("28 blame");
        due("7 by 3; 4 by 8; 1 by 5; but not 2", x.blame(0, 0), 3);
        due("the first", x.blame(0, 1), 0);
        due("close", x.blame(1, 0), 0);
        due("close", x.blame(1, 1), -1);
        due("0 is no number", x.blame(2, 0), 0);
        due("none", x.blame(2, 1), -1);
        due("1998 can't be mended", x.blame(3, 0), 0);
        due("empty", x.blame(4, 0), 0);
        BaleTallies y = Checks.with("t0@0:A#1;t1@0:A#999;t1@0:A#1;");
        due("1 by 1000 can't; 999 by 0 can't", y.blame(0, 0), 0);
        BaleTallies z = Checks.with("t1@1:A#1;t1@0:A#1;t0@0:A#2;");
        due("of this hold alone", z.blame(0, 1), 1);
        due("both", z.blame(0, 0), 2);
    }

    private static void worn() {
        c.part("29 worn");
        BaleTallies x = Checks.with("bABC:1*1;bABD:1*1;bXYZ:1*1;bAB:1*1;");
        due("the last", x.worn(0, 0), 1);
        due("the last", x.worn(0, 1), 2);
        due("none", x.worn(2, 0), 0);
        due("none", x.worn(2, 1), -1);
        x.limit(0);
        due("all", x.worn(2, 0), 3);
        due("all", x.worn(2, 1), 0);
        Checks.text(x, "bACC:1*1;");
        x.limit(4);
        due("the last two", x.worn(0, 0), 2);
        due("the last two", x.worn(0, 1), 1);
        for (int n : new int[] {-1, 5, LOW, HIGH}) {
            due("worn(" + n + ",0)", x.worn(n, 0), -2);
            due("worn(0," + n + ")", x.worn(0, n), -2);
        }
        due("what", x.worn(0, 2), -2);
    }

    private static void twin() {
        c.part("30 twin");
        BaleTallies x = Checks.with("bABC:1*1;");
        due("alone", x.twin(0, 0), -1);
        due("alone", x.twin(0, 1), -1);
        Checks.text(x, "bXYZ:1*1;bABD:1*1;bABE:1*1;~DE;");
        due("of like ones the least", x.twin(0, 0), 2);
        due("how far", x.twin(0, 1), 3);
        due("like", x.twin(2, 0), 3);
        due("like", x.twin(2, 1), 1);
        due("far", x.twin(1, 0), 0);
        due("far", x.twin(1, 1), 9);
        for (int n : new int[] {-1, 4, LOW, HIGH}) {
            due("twin(" + n + ",0)", x.twin(n, 0), -1);
            due("twin(0," + n + ")", x.twin(0, n), -1);
        }
        due("what", x.twin(0, 2), -1);
    }

    private static void shedAndDeliver() {
        c.part("31 shed");
        BaleTallies x = matching();
        due("what was matched to it", x.shed(0), 2);
        due("what was matched to it", x.shed(1), 3);
        due("due at most", x.shed(2), 1);
        for (int n : new int[] {-1, 3, LOW, HIGH}) {
            due("shed(" + n + ")", x.shed(n), -1);
            due("gone(" + n + ")", x.gone(n), -1);
            due("deliver(" + n + ",1)", x.deliver(n, 1), -1);
        }
        c.part("34 deliver");
        due("none", x.deliver(1, 0), -1);
        due("below 0", x.deliver(1, -1), -1);
        due("more than there are", x.deliver(1, 4), -1);
        due("far more", x.deliver(1, HIGH), -1);
        due("free", x.deliver(1, 1), 0);
        due("shed", x.shed(1), 2);
        x.days(7);
        due("two days each", x.deliver(1, 2), 4);
        due("empty", x.shed(1), 0);
        due("no more", x.deliver(1, 1), -1);
        x.rate(3, 10);
        due("four days each", x.deliver(0, 1), 40);
        due("charges", x.is(13), 44);
        c.part("35 gone");
        due("gone", x.gone(1), 3);
        due("gone", x.gone(0), 1);
        due("gone", x.gone(2), 0);
        x.far(0);
        due("0 at least", x.shed(1), 0);
        due("it is gone all the same", x.gone(1), 3);
        x.back();
        x.back();
        due("taken back", x.gone(0), 0);
        due("charges", x.is(13), 4);
    }

    private static void daysAndRate() {
        c.part("32 days");
        BaleTallies x = new BaleTallies();
        due("a day", x.days(1), 1);
        due("more", x.days(97), 98);
        due("99 at most", x.days(99), 99);
        due("99 at most", x.days(1), 99);
        due("wrong", x.days(0), -1);
        due("wrong", x.days(100), -1);
        due("wrong", x.days(LOW), -1);
        due("day", x.is(12), 99);
        due("deeds", x.is(7), 4);
        x.back();
        x.back();
        due("taken back", x.is(12), 98);
        c.part("33 rate");
        due("what a bale would be charged", x.rate(0, 999), 98 * 999);
        due("as many days as are free", x.rate(98, 999), 0);
        due("more free days than have gone by", x.rate(99, 999), 0);
        due("for nothing", x.rate(0, 0), 0);
        int deeds = x.is(7);
        int[][] wrong = {{-1, 0}, {100, 0}, {0, -1}, {0, 1000}, {LOW, LOW}, {HIGH, HIGH}};
        for (int[] w : wrong) {
            due("rate(" + w[0] + "," + w[1] + ")", x.rate(w[0], w[1]), -1);
        }
        due("no deed", x.is(7), deeds);
    }

    private static void settled() {
        c.part("36 settled");
        BaleTallies x = Checks.with("bAA:5*1;bAB:3*1;t0@0:AA#2;t1@0:A.#3;t0@0:A.#3;t1@0:AA#2;t0@0:AB#1;t1@0:AB#1;");
        due("how far all are apart", x.settled(-1), 2);
        due("the shore's", x.settled(1), 0);
        due("the ship's", x.settled(2), 0);
        due("not a doubtful one", x.settled(0), -1);
        for (int n : new int[] {-2, 6, LOW, HIGH}) {
            due("settled(" + n + ")", x.settled(n), -1);
        }
        x.remark(0, 0, 3);
        due("to the other one then", x.settled(1), 1);
        due("how far", x.settled(-1), 1);
        x.limit(0);
        due("no doubtful line", x.settled(-1), -1);
        due("no doubtful line", x.settled(1), -1);
        BaleTallies y = Checks.with("bAA:5*1;bAB:5*1;bAC:5*1;t0@0:A.#5;t1@0:A.#5;t1@0:A.#5;t0@0:A.#5;t0@0:A.#5;");
        int[] want = {0, 0, 1, 0, 1};
        due("least in all", y.settled(-1), 5);
        for (int k = 0; k < 5; k++) {
            due("of like ones the least, line " + k, y.settled(k), want[k]);
        }
        Checks.text(y, "t0@0:A.#5;");
        due("six of them", y.settled(-1), -1);
        due("six of them", y.settled(0), -1);
        due("one of them", Checks.with("bAA:1*1;bAB:1*1;t0@0:A.#5;").settled(-1), 2);
        due("one of them", Checks.with("bXX:1*1;bAA:1*1;bAB:1*1;t0@0:A.#5;").settled(0), 1);
        y.back();
        Checks.law(y, "s");
        due("by the law", y.settled(-1), 0);
        due("the first line's bill least", y.settled(0), 0);
        due("what tells nothing goes to the least", y.settled(1), 0);
        due("then the next one's", y.settled(3), 1);
        due("then the next one's", y.settled(4), 2);
        due("at first", new BaleTallies().settled(-1), -1);
    }

    private static void cure() {
        c.part("37 cure");
        BaleTallies x = Checks.with("bBXX:1*1;t0@0:8YY#1;t0@0:BXX#1;t0@0:.YZ#1;t0@0:8YZW#1;");
        due("8 and B: 7 apart; Y and X: 5; none", x.cure(0), -1);
        x.limit(5);
        due("Y and X", x.cure(0), 256 * 'Y' + 'X');
        x.limit(7);
        due("8 and B", x.cure(0), 256 * '8' + 'B');
        due("read", x.cure(1), -1);
        x.limit(6);
        due("worn ones not; 7 is read by 5", x.cure(2), 256 * 'Y' + 'X');
        for (int n : new int[] {-1, 4, LOW, HIGH}) {
            due("cure(" + n + ")", x.cure(n), -1);
        }
        BaleTallies y = Checks.with("bAB:1*1;bAC:1*1;t0@0:A.#1;t0@0:AD#1;");
        due("no sign that helps", y.cure(0), -1);
        due("doubtful: the first that helps", y.cure(1), 256 * 'D' + 'B');
        Checks.text(y, "~DB;~DC;");
        due("like both", y.read(1), -2);
        due("not what is like already", y.cure(1), -1);
        BaleTallies z = Checks.with("bBXX:1*1;t0@0:8YY#1;~01;~12;~23;~34;~45;~56;~67;");
        z.limit(7);
        due("seven couples", z.cure(0), 256 * '8' + 'B');
        Checks.text(z, "~78;");
        due("eight couples", z.cure(0), -1);
        BaleTallies w = Checks.with("bBO:1*1;t0@0:OB#1;");
        w.limit(2);
        due("a couple holds both ways", w.cure(0), 256 * 'O' + 'B');
        due("no bill", Checks.with("t0@0:A#1;").cure(0), -1);
        BaleTallies v = Checks.with("bA9:1*1;t0@0:ZZ#1;");
        due("the first sign, the first other", v.cure(0), 256 * 'Z' + 'A');
        v.limit(0);
        due("none is near enough", v.cure(0), -1);
        due("the last other", Checks.with("b999:1*1;t0@0:ZZZ#1;").cure(0), 256 * 'Z' + '9');
    }

    private static void strike() {
        c.part("38 strike");
        BaleTallies x = Checks.with("bA:9*1;t0@0:A#1;t0@1:A#2;t1@2:B#3;t0@3:A#4;");
        due("before", x.tally(0, 0), 7);
        due("struck", x.strike(1), 3);
        due("order", x.line(0, 2), 1);
        due("order", x.line(1, 2), 3);
        due("order", x.line(2, 2), 4);
        due("no more", x.line(3, 2), -1);
        due("counted anew", x.tally(0, 0), 5);
        due("struck", x.strike(2), 2);
        due("struck", x.strike(0), 1);
        due("the one that stays", x.line(0, 1), 2);
        for (int n : new int[] {-1, 1, LOW, HIGH}) {
            due("strike(" + n + ")", x.strike(n), -1);
        }
        Checks.text(x, "t1@4:ABC#9;");
        due("a line more", x.line(1, 2), 9);
        due("back", x.back(), 4);
        due("back", x.back(), 3);
        due("back", x.back(), 2);
        due("back", x.back(), 1);
        for (int k = 0; k < 4; k++) {
            due("n of line " + k, x.line(k, 2), k + 1);
            due("hold of line " + k, x.line(k, 1), k);
        }
        due("as before", x.tally(0, 0), 7);
    }

    private static void back() {
        c.part("39 back");
        BaleTallies x = new BaleTallies();
        due("none", x.back(), -1);
        for (int i = 0; i < 25; i++) {
            x.pack(100 + i);
        }
        due("the latest 20", x.is(7), 20);
        for (int i = 0; i < 20; i++) {
            due("still", x.back(), 19 - i);
            due("pack", x.is(6), 123 - i);
        }
        due("no more", x.back(), -1);
        due("it stays", x.is(6), 104);
        x.limit(7);
        due("one again", x.is(7), 1);
        due("back", x.back(), 0);
        due("limit", x.is(4), 4);
    }

    private static void backOfEach() {
        BaleTallies x = Checks.with("bAA:9*7;t0@0:AA#5;t1@0:AA#5;");
        Checks.law(x, "s+o");
        Checks.law(x, "s*o");
        due("law", x.tally(0, 2), 25);
        due("back", x.back(), 2);
        due("the law ahead of it", x.tally(0, 2), 10);
        due("back", x.back(), 1);
        due("none", x.tally(0, 2), 5);
        x.claim(0, 3);
        x.claim(0, 4);
        x.back();
        due("claim", x.bill(0, 4), 3);
        x.remark(0, 0, 5);
        due("due", x.tally(0, 3), 4);
        x.back();
        due("remark", x.bill(0, 3), 0);
        due("due", x.tally(0, 3), 9);
        x.far(1);
        x.back();
        due("far", x.is(5), 8);
        x.days(20);
        x.rate(10, 7);
        due("charge", x.deliver(0, 2), 140);
        x.back();
        due("gone", x.gone(0), 0);
        due("charges", x.is(13), 0);
        x.back();
        due("free and rate", x.deliver(0, 1), 15);
        x.back();
        x.back();
        due("day", x.is(12), 0);
        Checks.text(x, "bAB:9*7;~XY;t0@0:AX#1;");
        x.feed(1, 2, 3, 4, 5);
        x.write();
        x.back();
        due("bills", x.is(0), 1);
        due("lines", x.is(1), 2);
        due("couples", x.is(2), 0);
        due("the tape is no deed's", x.is(8), 20);
        due("what was written stays", x.octet(15), ';');
        due("it can come again", Checks.text(x, "~YX;bAB:9*7;t0@0:AX#1;"), 3);
        due("with nothing of what was", x.bill(1, 4), 0);
    }

    private static void write() {
        c.part("40 write");
        BaleTallies x = new BaleTallies();
        due("none", x.write(), 0);
        due("none", x.octet(0), -1);
        String items = "bABCDEFGH:999*9999;bZ09:10*500;bQ:1*1;";
        Checks.text(x, "~AB;" + items + "t0@0:A#1;");
        x.remark(1, 0, 5);
        due("not yet", x.octet(0), -1);
        due("bytes", x.write(), items.length());
        c.part("41 octet");
        for (int i = 0; i < items.length(); i++) {
            due("octet(" + i + ")", x.octet(i), items.charAt(i));
        }
        for (int n : new int[] {-1, items.length(), LOW, HIGH}) {
            due("octet(" + n + ")", x.octet(n), -1);
        }
        for (int i = 0; i < 3; i++) {
            x.back();
        }
        due("what was written latest", x.octet(1), 'A');
        due("none again", x.write(), 0);
        due("none again", x.octet(0), -1);
        StringBuilder twelve = new StringBuilder();
        for (int i = 0; i < 12; i++) {
            twelve.append("bABCDEFG").append((char) ('A' + i)).append(":999*9999;");
        }
        Checks.text(x, twelve.toString());
        due("twelve of the longest", x.write(), 228);
        due("the last", x.octet(227), ';');
        due("behind it", x.octet(228), -1);
    }
}
