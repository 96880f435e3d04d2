/** REMARKS, DUE, SHORT, OVER, MATCHED, BEST and PAID, each at its bound and one beyond it. */
public final class MatchBoundsTest {
    private static final Checks c = new Checks();

    public static void main(String[] args) {
        shipsAndShores();
        sixRemarks();
        due();
        shortOrOver();
        farOfAHeap();
        farOfABill();
        farAtFirst();
        asManyAsBothHave();
        orderOfCouples();
        best();
        bestWithinFar();
        bestAgain();
        bestByTwelve();
        fromTheFirst();
        most();
        sixtyHeapsForTwelve();
        claimAndLeft();
        worthAndPackage();
        torn();
        wet();
        said();
        nothingLeft();
        inTheirOrder();
        shutOut();
        paidForAll();
        c.finish();
    }

    private static void due(String call, int got, int want) {
        c.due(call, got, want);
    }

    private static void shipsAndShores() {
        c.part("SHIP'S, SHORE'S: N of LINES of that SIDE, together");
        for (int side = 0; side <= 1; side++) {
            BaleTallies x = Checks.with("bA:999*1;");
            for (int i = 0; i < 6; i++) {
                Checks.text(x, ("t" + side + "@" + i % 5 + ":A#999;").repeat(10));
            }
            due("of a BILL, by all LINES", x.tally(0, side), 59940);
            due("of the other SIDE", x.tally(0, 1 - side), 0);
            due("AGREED", x.tally(0, 2), 0);
            Checks.law(x, "s+o");
            due("AGREED", x.tally(0, 2), 59940);
            due("OVER", x.tally(0, 5), 59940 - 999);
        }
        BaleTallies y = new BaleTallies();
        for (int i = 0; i < 6; i++) {
            Checks.text(y, "t0@0:AAAAA#999;t1@4:AAAAA#998;".repeat(5));
        }
        due("of a HEAP, the SHIP'S", y.heap(0, 1), 30 * 999);
        due("of a HEAP, the SHORE'S", y.heap(0, 2), 30 * 998);
        due("of a HEAP, AGREED", y.heap(0, 3), 30 * 998);
        BaleTallies z = Checks.with("bAAAA:9*1;bBBBB:9*1;t0@0:AAAA#1;t0@1:AAA.#2;t1@2:BBB#4;t0@3:BBBBB#8;t0@4:AABB#16;");
        due("READ so, worn or not", z.tally(0, 0), 3);
        due("READ so, a SIGN more", z.tally(1, 0), 8);
        due("READ so, a SIGN fewer", z.tally(1, 1), 4);
        due("READ as none: a HEAP's", z.heap(0, 1), 16);
    }

    private static void sixRemarks() {
        c.part("REMARKS of a BILL, at most 6");
        BaleTallies x = Checks.with("bA:10*1;bB:10*1;");
        int[] kinds = {3, 0, 2, 1, 0, 3};
        int[] ns = {0, 999, 1, 998, 0, 500};
        for (int i = 0; i < 6; i++) {
            due("ahead of it", x.bill(0, 3), i);
            due("no such REMARK yet", x.remarked(0, i, 0), -1);
            due("remark", x.remark(0, kinds[i], ns[i]), i + 1);
            due("KIND", x.remarked(0, i, 0), kinds[i]);
            due("N", x.remarked(0, i, 1), ns[i]);
        }
        due("a seventh", x.remark(0, 0, 1), -1);
        due("REMARKS", x.bill(0, 3), 6);
        due("no such REMARK", x.remarked(0, 6, 0), -1);
        due("DEEDS", x.is(7), 7);
        due("another BILL's first", x.remark(1, 1, 5), 1);
        x.back();
        x.back();
        due("one was taken back", x.bill(0, 3), 5);
        due("another one", x.remark(0, 1, 7), 6);
        due("its KIND", x.remarked(0, 5, 0), 1);
        due("its N", x.remarked(0, 5, 1), 7);
        due("as they come", x.remarked(0, 4, 0), 0);
        due("a seventh", x.remark(0, 1, 7), -1);
    }

    /** What is due of a bill of 5, by bales shut out. */
    private static int dueBy(int... out) {
        BaleTallies x = Checks.with("bA:5*1;");
        for (int n : out) {
            x.remark(0, 0, n);
        }
        return x.tally(0, 3);
    }

    private static void due() {
        c.part("DUE is COUNT less all SHUT OUT (0 at least)");
        due("none", dueBy(), 5);
        due("0", dueBy(0), 5);
        due("1", dueBy(1), 4);
        due("4", dueBy(4), 1);
        due("5", dueBy(5), 0);
        due("6", dueBy(6), 0);
        due("999", dueBy(999), 0);
        due("2 and 2", dueBy(2, 2), 1);
        due("2 and 3", dueBy(2, 3), 0);
        due("3 and 3", dueBy(3, 3), 0);
        due("six of 999", dueBy(999, 999, 999, 999, 999, 999), 0);
        BaleTallies x = Checks.with("bA:5*1;");
        for (int kind = 1; kind <= 3; kind++) {
            x.remark(0, kind, 4);
            due("other KINDS shut nothing out", x.tally(0, 3), 5);
        }
        x.remark(0, 0, 999);
        due("0 at least", x.tally(0, 3), 0);
        x.back();
        due("taken back", x.tally(0, 3), 5);
        due("999 of 999", dueOf999(999), 0);
        due("998 of 999", dueOf999(998), 1);
    }

    private static int dueOf999(int out) {
        BaleTallies x = Checks.with("bA:999*1;");
        x.remark(0, 0, out);
        return x.tally(0, 3);
    }

    private static void shortOrOver() {
        c.part("SHORT, OVER: if that is above 0");
        int[][] want = {{4, 1, 0}, {5, 0, 0}, {6, 0, 1}, {1, 4, 0}, {999, 0, 994}};
        for (int[] w : want) {
            BaleTallies x = Checks.with("bA:5*1;t0@0:A#" + w[0] + ";t1@0:A#" + w[0] + ";");
            due("AGREED", x.tally(0, 2), w[0]);
            due("SHORT", x.tally(0, 4), w[1]);
            due("OVER", x.tally(0, 5), w[2]);
            due("LEFT", x.tally(0, 6), w[1]);
            due("what it has yet", x.tally(0, 7), w[2]);
            due("none MATCHED to it", x.tally(0, 8), 0);
            due("none from it to itself", x.brought(0, 0), 0);
        }
        BaleTallies y = Checks.with("bA:5*1;t0@0:A#3;t1@0:A#3;");
        y.remark(0, 0, 1);
        due("DUE 4: SHORT", y.tally(0, 4), 1);
        y.remark(0, 0, 1);
        due("DUE 3: neither", y.tally(0, 4) + y.tally(0, 5), 0);
        y.remark(0, 0, 1);
        due("DUE 2: OVER", y.tally(0, 5), 1);
    }

    private static void farOfAHeap() {
        c.part("MATCHED: FAR (0 to 24) at most, of a HEAP");
        for (int far = 1; far <= 24; far++) {
            String[] p = ReadBoundsTest.pair(far);
            BaleTallies x = Checks.with("b" + p[1] + ":5*1;t0@0:" + p[0] + "#3;t1@0:" + p[0] + "#3;");
            x.limit(0);
            for (int most = far - 1; most <= Math.min(24, far + 1); most++) {
                x.far(most);
                int bales = far <= most ? 3 : 0;
                due(far + " by FAR " + most, x.matched(0), bales);
                due("APART in all", x.matched(1), bales * far);
                due("BEST", x.best(0), bales);
                due("BEST: APART in all", x.best(1), bales * far);
                due("brought", x.brought(12, 0), bales);
                due("MATCHED to it", x.tally(0, 8), bales);
                due("LEFT", x.tally(0, 6), 5 - bales);
                due("the HEAP has yet", x.heap(0, 4), 3 - bales);
            }
            x.far(0);
            due("FAR 0", x.matched(0), 0);
            due("FAR 0: BEST", x.best(0), 0);
            x.far(24);
            due("FAR 24", x.matched(0), 3);
            due("FAR 24: BEST", x.best(0), 3);
        }
    }

    private static void farOfABill() {
        c.part("MATCHED: FAR at most, of an OVER BILL its MARK as SEEN");
        String[][] marks = {{"AAAA", "AAAB", "3"}, {"A", "AB", "2"}, {"AAAAAAAA", "BBBBBBBB", "24"}, {"A", "BBBBBBBB", "17"}};
        for (String[] told : marks) {
            int far = Integer.parseInt(told[2]);
            BaleTallies x = Checks.with("b" + told[0] + ":5*1;b" + told[1] + ":1*1;t0@0:" + told[1] + "#4;t1@0:" + told[1] + "#4;");
            for (int most = far - 1; most <= Math.min(24, far + 1); most++) {
                x.far(most);
                int bales = far <= most ? 3 : 0;
                due(far + " by FAR " + most, x.brought(1, 0), bales);
                due("BEST", x.best(0), bales);
                due("APART in all", x.best(1), bales * far);
                due("it has yet", x.tally(1, 7), 3 - bales);
                due("it is OVER by", x.tally(1, 5), 3);
                due("LEFT", x.tally(0, 6), 5 - bales);
            }
        }
        BaleTallies y = Checks.with("bA:5*1;bB:1*1;t0@0:B#2;t1@0:B#2;~AB;");
        y.far(1);
        due("LIKE", y.brought(1, 0), 1);
        y.far(0);
        due("LIKE, but FAR 0", y.brought(1, 0), 0);
    }

    private static void farAtFirst() {
        c.part("FAR is 8 at first");
        int[] bales = {3, 3, 0, 0};
        for (int far = 7; far <= 10; far++) {
            String[] p = ReadBoundsTest.pair(far);
            BaleTallies x = Checks.with("b" + p[1] + ":5*1;t0@0:" + p[0] + "#3;t1@0:" + p[0] + "#3;");
            due(far + " apart", x.matched(0), bales[far - 7]);
            due(far + " apart: BEST", x.best(0), bales[far - 7]);
        }
    }

    private static void asManyAsBothHave() {
        c.part("as many as both have yet");
        for (int n = 4; n <= 6; n++) {
            BaleTallies x = Checks.with("bAAAA:5*1;t0@0:AAAAZZZ#" + n + ";t1@0:AAAAZZZ#" + n + ";");
            int moved = Math.min(n, 5);
            due(n + " for 5", x.brought(12, 0), moved);
            due("LEFT", x.tally(0, 6), 5 - moved);
            due("it has yet", x.heap(0, 4), n - moved);
            due("SHORT all the same", x.tally(0, 4), 5);
            due("APART in all", x.matched(1), 6 * moved);
        }
        BaleTallies y = Checks.with("bAAAA:5*1;t0@0:AAAAZZZ#9;t1@0:AAAAZZZ#9;t0@0:AAAAYYY#9;t1@0:AAAAYYY#9;");
        due("all from the first", y.brought(12, 0), 5);
        due("none from the next", y.brought(13, 0), 0);
        BaleTallies z = Checks.with("bAB:2*1;bAC:2*1;bAD:2*1;t0@0:A.#5;t1@0:A.#5;");
        due("the first", z.brought(12, 0), 2);
        due("the next", z.brought(12, 1), 2);
        due("the last", z.brought(12, 2), 1);
        due("the last's LEFT", z.tally(2, 6), 1);
    }

    private static void orderOfCouples() {
        c.part("by how far, then BILLS OVER ahead of HEAPS, by numbers, then the SHORT one's number");
        BaleTallies x = Checks.with("bAB:2*1;bAC:1*1;bAD:1*1;t0@0:AX#3;t1@0:AX#3;t0@0:AY#3;t1@0:AY#3;"
            + "t0@0:AC#2;t1@0:AC#2;t0@0:AD#2;t1@0:AD#2;");
        due("the first BILL", x.brought(1, 0), 1);
        due("the next BILL", x.brought(2, 0), 1);
        due("no HEAP then", x.brought(12, 0), 0);
        Checks.text(x, "bAE:4*1;");
        due("the HEAPS for the last", x.brought(12, 3), 3);
        due("the HEAPS for the last", x.brought(13, 3), 1);
        due("the SHORT one of a lesser number had both", x.brought(1, 3) + x.brought(2, 3), 0);
        BaleTallies y = Checks.with("bAB:2*1;bAC:1*1;t0@0:AC#3;t1@0:AC#3;t0@0:A.#1;t1@0:A.#1;");
        due("a HEAP that is nearer", y.brought(12, 0), 1);
        due("then the BILL", y.brought(1, 0), 1);
        BaleTallies z = Checks.with("bAB:1*1;bXAC:1*1;t0@0:AC#1;t1@0:AC#1;");
        z.limit(0);
        due("the nearer BILL, though its number is higher", z.brought(12, 1), 1);
        due("none for the other", z.brought(12, 0), 0);
        due("BEST, to the nearer one", z.best(1), 2);
        BaleTallies w = Checks.with("bXAC:1*1;bAB:1*1;bAD:1*1;t0@0:AC#1;t1@0:AC#1;");
        w.limit(0);
        due("the nearer BILL, whose number is less", w.brought(12, 0), 1);
        due("BEST, to the nearer one", w.best(1), 2);
        due("BEST, one bale", w.best(0), 1);
    }

    private static void best() {
        c.part("BEST: those that bring most, of these the least APART in all");
        BaleTallies x = Checks.with("bAB:1*1;bCD:1*1;t0@0:A.#1;t1@0:A.#1;t0@0:.B#1;t1@0:.B#1;");
        x.limit(0);
        x.far(5);
        due("MATCHED", x.matched(0), 2);
        due("MATCHED, APART in all", x.matched(1), 1 + 4);
        due("BEST", x.best(0), 2);
        due("BEST, APART in all", x.best(1), 1 + 4);
        BaleTallies y = Checks.with("bAAAA:1*1;bAAXY:1*1;t0@0:AAA.#1;t1@0:AAA.#1;t0@0:AAAAA#1;t1@0:AAAAA#1;");
        y.limit(0);
        y.far(4);
        due("MATCHED takes the nearest", y.matched(0), 1);
        due("MATCHED, APART in all", y.matched(1), 1);
        due("BEST brings more", y.best(0), 2);
        due("BEST, though farther APART", y.best(1), 4 + 2);
        y.far(8);
        due("within 8 MATCHED brings all", y.matched(0), 2);
        due("by 1 and 8", y.matched(1), 9);
        due("BEST: by 4 and 2", y.best(1), 6);
    }

    private static void bestWithinFar() {
        c.part("BEST: within FAR");
        BaleTallies y = Checks.with("bAAAA:1*1;bAAXY:1*1;t0@0:AAA.#1;t1@0:AAA.#1;t0@0:AAAAA#1;t1@0:AAAAA#1;");
        y.limit(0);
        int[] fars = {0, 1, 2, 3, 4, 5};
        int[] bales = {0, 1, 1, 1, 2, 2};
        int[] apart = {0, 1, 1, 1, 6, 6};
        for (int i = 0; i < fars.length; i++) {
            y.far(fars[i]);
            due("bales by FAR " + fars[i], y.best(0), bales[i]);
            due("APART in all by FAR " + fars[i], y.best(1), apart[i]);
        }
        due("no such answer", y.best(2), -1);
        due("no such answer", y.best(-1), -1);
        due("nothing SHORT", Checks.with("t0@0:A#1;t1@0:A#1;").best(0), 0);
        due("nothing OVER", Checks.with("bA:9*1;").best(0), 0);
    }

    private static void bestAgain() {
        c.part("BEST, asked again behind a DEED");
        // A. reaches AB and ACC; ABX reaches AB alone.
        BaleTallies x = Checks.with("bAB:1*1;bACC:2*1;t0@0:A.#1;t0@0:ABX#2;");
        Checks.law(x, "s");
        x.limit(0);
        x.far(3);
        for (int i = 0; i < 3; i++) {
            due("bales", x.best(0), 2);
            due("APART in all", x.best(1), 3 + 2);
            due("MATCHED", x.matched(0), 1);
            due("MATCHED, APART in all", x.matched(1), 1);
            x.claim(0, i);
        }
        x.strike(1);
        due("the nearest now", x.best(1), 1);
        x.back();
        due("as before", x.best(1), 5);
    }

    /** Twelve bills, each but the first a SIGN apart from the one ahead of it, and a heap for each two of them. */
    private static void bestByTwelve() {
        c.part("BEST, where twelve BILLS take from one another");
        String[] marks = {"AB", "CB", "CD", "ED", "EF", "GF", "GH", "IH", "IJ", "KJ", "KL", "ML"};
        String[] heaps = {".B", "C.", ".D", "E.", ".F", "G.", ".H", "I.", ".J", "K.", ".L"};
        for (int order = 0; order < 4; order++) {
            StringBuilder text = new StringBuilder();
            for (int i = 0; i < 12; i++) {
                text.append('b').append(marks[order % 2 == 0 ? i : 11 - i]).append(":9*1;");
            }
            for (int i = 0; i < 11; i++) {
                text.append("t0@0:").append(heaps[order < 2 ? i : 10 - i]).append("#9;");
            }
            BaleTallies x = Checks.with(text.toString());
            Checks.law(x, "s");
            x.limit(0);
            x.far(1);
            due("eleven", x.best(0), 99);
            Checks.text(x, "t0@0:A.#4;");
            due("and four more", x.best(0), 103);
            due("each by 1", x.best(1), 103);
            Checks.text(x, "t0@0:M.#5;t0@0:A.#1;");
            due("all", x.best(0), 108);
            due("each by 1", x.best(1), 108);
            Checks.text(x, "t0@0:A.#1;");
            due("no more", x.best(0), 108);
            x.far(0);
            due("none within 0", x.best(0), 0);
        }
    }

    private static void fromTheFirst() {
        c.part("from the first BILL, to the first BILL");
        BaleTallies x = Checks.with("bAB:1*1;bAC:9*1;t0@0:AB#4;t1@0:AB#4;");
        due("MATCHED from BILL 0", x.brought(0, 1), 3);
        due("MATCHED", x.matched(0), 3);
        due("BEST", x.best(0), 3);
        due("BEST, APART in all", x.best(1), 9);
        BaleTallies y = Checks.with("bAB:1*1;bAC:2*1;bXX:3*1;t0@0:AB#4;t1@0:AB#4;");
        y.far(6);
        due("MATCHED from BILL 0 to both", y.brought(0, 1) * 10 + y.brought(0, 2), 21);
        due("BEST from BILL 0 to both", y.best(0), 3);
        due("BEST, APART in all", y.best(1), 2 * 3 + 6);
        // ACC takes what A. had brought to AB, once ABX comes to AB.
        BaleTallies z = Checks.with("bACC:2*1;bAB:1*1;t0@0:A.#1;t0@0:ABX#2;");
        Checks.law(z, "s");
        z.limit(0);
        z.far(3);
        due("BEST to BILL 0", z.best(0), 2);
        due("BEST, APART in all", z.best(1), 3 + 2);
    }

    /** Twelve bills all short of 999, and heaps of 999 enough: as many bales as there can be. */
    private static void most() {
        c.part("the most that can be MATCHED");
        BaleTallies x = new BaleTallies();
        StringBuilder bills = new StringBuilder();
        StringBuilder lines = new StringBuilder();
        for (int i = 0; i < 12; i++) {
            bills.append("bAAAAAAA").append((char) ('A' + i)).append(":999*9999;");
            lines.append("t0@0:ZZZZZZZ").append((char) ('A' + i)).append("#999;");
        }
        Checks.text(x, bills.toString());
        Checks.text(x, lines.toString());
        Checks.law(x, "s");
        x.far(24);
        due("all are STRANGE", x.is(11), 12);
        due("MATCHED", x.matched(0), 12 * 999);
        due("MATCHED, APART in all", x.matched(1), 12 * 999 * 21);
        due("BEST", x.best(0), 12 * 999);
        due("BEST, APART in all", x.best(1), 12 * 999 * 21);
        x.far(21);
        due("FAR 21", x.best(0), 12 * 999);
        x.far(20);
        due("FAR 20", x.best(0), 0);
        Checks.law(x, "9999*9999");
        x.far(24);
        due("BILLS that are OVER by all they can", x.tally(11, 5), 1000000 - 999);
        due("nothing is SHORT", x.matched(0), 0);
    }

    private static void full(BaleTallies x) {
        StringBuilder bills = new StringBuilder("~01;~02;~03;~04;~05;~06;~07;~08;");
        StringBuilder lines = new StringBuilder();
        for (int i = 0; i < 12; i++) {
            bills.append("bAAAAAAA").append((char) ('M' + i)).append(":999*9999;");
        }
        for (int i = 0; i < 60; i++) {
            lines.append("t0@0:").append((char) ('A' + i / 10)).append(i % 10).append("#").append(1 + i % 9).append(';');
        }
        Checks.text(x, bills.toString());
        Checks.text(x, lines.toString());
        Checks.law(x, "s");
        x.far(24);
    }

    private static void sixtyHeapsForTwelve() {
        c.part("all BILLS, couples and HEAPS that there can be");
        BaleTallies x = new BaleTallies();
        full(x);
        due("BILLS, LINES, couples", x.is(0) * 10000 + x.is(1) * 100 + x.is(2), 126008);
        due("HEAPS", x.is(3), 60);
        due("MATCHED", x.matched(0), 291);
        due("MATCHED, ten HEAPS by 15", x.matched(1), 46 * 15 + 245 * 18);
        due("BEST", x.best(0), 291);
        due("BEST, ten HEAPS by 15", x.best(1), 46 * 15 + 245 * 18);
        due("from the first", x.brought(12, 0), 1);
        due("from the last", x.brought(71, 0), 6);
        due("to the last BILL", x.brought(71, 11), 0);
        due("the first BILL's LEFT", x.tally(0, 6), 999 - 291);
        due("what the last has yet", x.heap(59, 4), 0);
        due("sixty of the ship's", x.against(0, 1), 60);
        c.idle("nothing more is told of it", MatchBoundsTest::full, y -> y.octet(0), -1);
        x.limit(20);
        due("all are DOUBTFUL", x.is(10), 60);
        due("too many to be SETTLED", x.settled(-1), -1);
    }

    private static void claimAndLeft() {
        c.part("PAID: CLAIM, LEFT at most");
        int[] claims = {0, 1, 4, 5, 6, 999};
        int[] bales = {0, 1, 4, 5, 5, 5};
        for (int i = 0; i < claims.length; i++) {
            BaleTallies x = Checks.with("bAAAA:7*10;t0@0:AAAA#2;t1@0:AAAA#2;");
            due("CLAIM 0 at first", x.claim(0, claims[i]), 0);
            due("CLAIM " + claims[i], x.paid(0), 10 * bales[i]);
            Checks.text(x, "t0@0:AAAAZZZ#4;t1@0:AAAAZZZ#4;");
            due("4 were MATCHED to it, CLAIM " + claims[i], x.paid(0), 10 * Math.min(1, claims[i]));
            Checks.text(x, "t0@0:AAAAZZZ#1;t1@0:AAAAZZZ#1;");
            due("none is LEFT, CLAIM " + claims[i], x.paid(0), 0);
        }
        BaleTallies y = Checks.with("bA:7*10;t0@0:A#9;t1@0:A#9;");
        y.claim(0, 999);
        due("it is OVER", y.paid(0), 0);
    }

    private static void worthAndPackage() {
        c.part("each the lesser of WORTH and PACKAGE");
        BaleTallies x = Checks.with("bA:9*500;bB:9*499;bC:9*501;bD:9*1;bE:9*9999;");
        int[] first = {500, 499, 500, 1, 500};
        for (int b = 0; b < 5; b++) {
            x.claim(b, 1);
            due("PACKAGE 500 at first, BILL " + b, x.paid(b), first[b]);
        }
        int[] packs = {499, 500, 501, 1, 2, 9998, 9999};
        int[] a = {499, 500, 500, 1, 2, 500, 500};
        int[] e = {499, 500, 501, 1, 2, 9998, 9999};
        for (int i = 0; i < packs.length; i++) {
            x.pack(packs[i]);
            due("WORTH 500, PACKAGE " + packs[i], x.paid(0), a[i]);
            due("WORTH 9999, PACKAGE " + packs[i], x.paid(4), e[i]);
        }
    }

    /** What is paid for some bales of a worth each, by remarks told as kind and N in turn. */
    private static int paid(int bales, int each, int... remarks) {
        BaleTallies x = Checks.with("bA:999*" + each + ";");
        x.pack(9999);
        x.claim(0, bales);
        for (int i = 0; i + 1 < remarks.length; i += 2) {
            x.remark(0, remarks[i], remarks[i + 1]);
        }
        return x.paid(0);
    }

    private static void torn() {
        c.part("TORN: less by half of what N of these bales (no more than are paid) are worth");
        due("0", paid(3, 51, 1, 0), 153);
        due("1, cut", paid(3, 51, 1, 1), 153 - 25);
        due("2", paid(3, 51, 1, 2), 153 - 51);
        due("3, cut", paid(3, 51, 1, 3), 153 - 76);
        due("4: no more than are paid", paid(3, 51, 1, 4), 153 - 76);
        due("999", paid(3, 51, 1, 999), 153 - 76);
        due("one of worth 1", paid(1, 1, 1, 1), 1);
        due("one of worth 2", paid(1, 2, 1, 1), 1);
        due("twice", paid(2, 10, 1, 1, 1, 1), 10);
        due("none is paid", paid(0, 51, 1, 5), 0);
        due("all of the most", paid(999, 9999, 1, 999), 9989001 - 4994500);
    }

    private static void wet() {
        c.part("WET: likewise a quarter");
        due("0", paid(3, 51, 2, 0), 153);
        due("1, cut", paid(3, 51, 2, 1), 153 - 12);
        due("2, cut", paid(3, 51, 2, 2), 153 - 25);
        due("3, cut", paid(3, 51, 2, 3), 153 - 38);
        due("4: no more than are paid", paid(3, 51, 2, 4), 153 - 38);
        due("999", paid(3, 51, 2, 999), 153 - 38);
        due("one of worth 3", paid(1, 3, 2, 1), 3);
        due("one of worth 4", paid(1, 4, 2, 1), 3);
        due("one of worth 5", paid(1, 5, 2, 1), 4);
        due("all of the most", paid(999, 9999, 2, 999), 9989001 - 2497250);
    }

    private static void said() {
        c.part("SAID: what is left by 2, N means nothing");
        due("even", paid(2, 5, 3, 0), 5);
        due("odd: cut", paid(3, 5, 3, 0), 7);
        due("N 999", paid(3, 5, 3, 999), 7);
        due("twice, cut each time", paid(3, 5, 3, 1, 3, 1), 3);
        due("1", paid(1, 1, 3, 1), 0);
        due("0", paid(1, 1, 3, 1, 3, 1), 0);
        due("six times", paid(999, 9999, 3, 0, 3, 0, 3, 0, 3, 0, 3, 0, 3, 0), 156078);
    }

    private static void nothingLeft() {
        c.part("0 at least, each time");
        due("by half twice: 0", paid(2, 50, 1, 2, 1, 2), 0);
        due("by half twice and a bale more", paid(2, 50, 1, 2, 1, 1), 25);
        due("by half thrice", paid(2, 50, 1, 2, 1, 2, 1, 2), 0);
        due("by a quarter four times", paid(2, 50, 2, 2, 2, 2, 2, 2, 2, 2), 0);
        due("by a quarter five times", paid(2, 50, 2, 2, 2, 2, 2, 2, 2, 2, 2, 1), 0);
        due("below 0 once, and by 2", paid(2, 50, 1, 2, 1, 2, 1, 2, 3, 0), 0);
        due("cut to 1", paid(1, 51, 1, 1, 1, 1), 1);
        due("cut to 1, then below 0", paid(1, 51, 1, 1, 1, 1, 1, 1), 0);
    }

    private static void inTheirOrder() {
        c.part("by its REMARKS, as they come");
        due("SAID, then TORN", paid(1, 100, 3, 0, 1, 1), 0);
        due("TORN, then SAID", paid(1, 100, 1, 1, 3, 0), 25);
        due("SAID, then WET", paid(1, 100, 3, 0, 2, 1), 25);
        due("WET, then SAID", paid(1, 100, 2, 1, 3, 0), 37);
        due("TORN, WET", paid(1, 102, 1, 1, 2, 1), 26);
        due("SAID, TORN, SAID", paid(4, 10, 3, 0, 1, 1, 3, 0), 7);
    }

    private static void shutOut() {
        c.part("SHUT OUT: fewer are LEFT");
        BaleTallies x = Checks.with("bA:5*10;");
        x.claim(0, 3);
        int[] out = {1, 1, 1, 1, 1, 1};
        int[] want = {30, 30, 20, 10, 0, 0};
        for (int i = 0; i < 6; i++) {
            x.remark(0, 0, out[i]);
            due("DUE " + Math.max(0, 4 - i), x.paid(0), want[i]);
        }
    }

    private static void paidForAll() {
        c.part("PAID for all");
        due("no BILL", new BaleTallies().paid(-1), 0);
        BaleTallies x = new BaleTallies();
        StringBuilder bills = new StringBuilder();
        for (int i = 0; i < 12; i++) {
            bills.append('b').append((char) ('A' + i)).append(":999*9999;");
        }
        Checks.text(x, bills.toString());
        x.pack(9999);
        for (int b = 0; b < 12; b++) {
            x.claim(b, 999);
            due("so many BILLS", x.paid(-1), (b + 1) * 999 * 9999);
            due("BILL " + b, x.paid(b), 999 * 9999);
        }
        due("no such BILL", x.paid(12), -2);
        due("below NONE", x.paid(-2), -2);
    }
}
