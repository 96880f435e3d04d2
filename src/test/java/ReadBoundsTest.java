/** APART, READ, HEAPS, WORN ONCE, SETTLED and CURED, each at its bound and one beyond it. */
public final class ReadBoundsTest {
    private static final String SIGNS = "ABCDEFGHIJKLMNOPQRSTUVWXYZ0123456789";
    private static final Checks c = new Checks();

    public static void main(String[] args) {
        signBySign();
        leftOut();
        cheapest();
        byLimit();
        limitAtFirst();
        doubtful();
        doubtfulAtTheLimit();
        sixtyHeaps();
        unlikeHeaps();
        wornOnce();
        twin();
        settledLines();
        settledBills();
        settledLikeOnes();
        settledAnew();
        curedByLimit();
        curedSigns();
        curedCouples();
        c.finish();
    }

    private static void due(String call, int got, int want) {
        c.due(call, got, want);
    }

    private static int gap(String seen, String mark, String couples) {
        return Checks.with("b" + mark + ":1*1;" + couples + "t0@0:" + seen + "#1;").apart(0, 0);
    }

    private static void signBySign() {
        c.part("APART: alike 0; worn 1; LIKE 1; else 3");
        for (int first = 0; first < 36; first += 12) {
            StringBuilder text = new StringBuilder("~AZ;~09;~A0;");
            for (int b = first; b < first + 12; b++) {
                text.append('b').append(SIGNS.charAt(b)).append(":1*1;");
            }
            for (int k = 0; k < 36; k++) {
                text.append("t0@0:").append(SIGNS.charAt(k)).append("#1;");
            }
            BaleTallies x = Checks.with(text + "t0@0:.#1;");
            for (int b = 0; b < 12; b++) {
                char mark = SIGNS.charAt(first + b);
                due("worn and " + mark, x.apart(36, b), 1);
                for (int k = 0; k < 36; k++) {
                    char seen = SIGNS.charAt(k);
                    boolean like = "AZA 090 A0A".contains("" + seen + mark);
                    due(seen + " and " + mark, x.apart(k, b), seen == mark ? 0 : like ? 1 : 3);
                }
            }
        }
    }

    private static void leftOut() {
        c.part("APART: a SIGN (worn, too) of either left out 2");
        String eight = "AAAAAAAA";
        for (int size = 1; size <= 8; size++) {
            due("left out of the MARK", gap("A", eight.substring(0, size), ""), 2 * (size - 1));
            due("left out of the SEEN one", gap(eight.substring(0, size), "A", ""), 2 * (size - 1));
            due("worn left out", gap("A" + ".".repeat(size - 1), "A", ""), 2 * (size - 1));
            due("worn ahead left out", gap(".".repeat(size - 1) + "A", "A", ""), 2 * (size - 1));
            due("all worn", gap(".".repeat(size), "A", ""), 2 * (size - 1) + 1);
            due("none alike, as many", gap("Z".repeat(size), eight.substring(0, size), ""), 3 * size);
            due("all LIKE", gap("Z".repeat(size), eight.substring(0, size), "~AZ;"), size);
            due("all worn, as many", gap(".".repeat(size), eight.substring(0, size), ""), size);
        }
    }

    private static void cheapest() {
        c.part("APART: the least cost");
        due("3 is less than both left out", gap("B", "A", ""), 3);
        due("two left out are less than two unlike", gap("XA", "AY", ""), 4);
        due("in another order", gap("AB", "BA", ""), 4);
        due("in another order, but LIKE", gap("AB", "BA", "~AB;"), 2);
        due("a worn one stands for a SIGN", gap("A.C", "ABC", ""), 1);
        due("a worn one stands for the dearest SIGN", gap(".B", "AB", ""), 1);
        due("all eight moved by one", gap("BCDEFGHI", "ABCDEFGH", ""), 4);
        due("a LIKE one is not passed on", gap("A", "C", "~AB;~BC;"), 3);
        due("the farthest", gap("AAAAAAAA", "BBBBBBBB", ""), 24);
        due("one less", gap("AAAAAAA", "BBBBBBBB", ""), 23);
    }

    /** A SEEN mark and a MARK that are so far apart (0 to 24): some signs left out, some unlike. */
    static String[] pair(int far) {
        if (far == 1) {
            return new String[] {"AAA.", "AAAA"};
        }
        int unlike = far / 3;
        while ((far - 3 * unlike) % 2 != 0) {
            unlike--;
        }
        int out = (far - 3 * unlike) / 2;
        String seen = "Z".repeat(out + unlike) + "A".repeat(8 - out - unlike);
        return new String[] {seen, "A".repeat(8 - out)};
    }

    private static void byLimit() {
        c.part("READ, if that is LIMIT (0 to 20) at most");
        for (int far = 0; far <= 24; far++) {
            String[] p = pair(far);
            BaleTallies x = Checks.with("b" + p[1] + ":1*1;t0@0:" + p[0] + "#1;");
            due("APART", x.apart(0, 0), far);
            due("the least LIMIT for " + far, x.least(0), far <= 20 ? far : -1);
            for (int limit = Math.max(0, far - 1); limit <= Math.min(20, far + 1); limit++) {
                x.limit(limit);
                due(far + " by LIMIT " + limit, x.read(0), far <= limit ? 0 : -3);
                due("LINES that are READ", x.is(9), far <= limit ? 1 : 0);
                due("STRANGE ones", x.is(11), far <= limit ? 0 : 1);
                due("HEAPS", x.is(3), far <= limit ? 0 : 1);
                due("SHIP'S of the BILL", x.tally(0, 0), far <= limit ? 1 : 0);
            }
            x.limit(20);
            due(far + " by the highest", x.read(0), far <= 20 ? 0 : -3);
            due("the least LIMIT is not of LIMIT", x.least(0), far <= 20 ? far : -1);
        }
    }

    private static void limitAtFirst() {
        c.part("LIMIT is 4 at first");
        int[] read = {0, 0, 0, 0, 0, -3, -3};
        for (int far = 0; far < read.length; far++) {
            String[] p = pair(far);
            due(far + " apart", Checks.with("b" + p[1] + ":1*1;t0@0:" + p[0] + "#1;").read(0), read[far]);
        }
        due("no BILL: STRANGE", Checks.with("t0@0:A#1;").read(0), -3);
        due("no BILL: no LIMIT", Checks.with("t0@0:A#1;").least(0), -1);
    }

    private static void doubtful() {
        c.part("DOUBTFUL, if several are so");
        String[] like = {"", "B", "C", "D", "BC", "BD", "CD", "BCD"};
        int[] read = {-2, 0, 1, 2, -2, -2, -2, -2};
        for (int i = 0; i < like.length; i++) {
            StringBuilder text = new StringBuilder("bB:1*1;bC:1*1;bD:1*1;t0@0:X#1;");
            for (char sign : like[i].toCharArray()) {
                text.append("~X").append(sign).append(';');
            }
            BaleTallies x = Checks.with(text.toString());
            due("X is LIKE " + like[i], x.read(0), read[i]);
            due("DOUBTFUL ones", x.is(10), read[i] == -2 ? 1 : 0);
            due("the least LIMIT", x.least(0), read[i] == -2 ? -1 : 1);
        }
    }

    private static void doubtfulAtTheLimit() {
        c.part("DOUBTFUL at the LIMIT, STRANGE beyond it");
        BaleTallies x = Checks.with("bAB:1*1;bAC:1*1;t0@0:AD#1;");
        int[] limits = {4, 3, 2, 0, 20};
        int[] read = {-2, -2, -3, -3, -2};
        for (int i = 0; i < limits.length; i++) {
            x.limit(limits[i]);
            due("LIMIT " + limits[i], x.read(0), read[i]);
            due("DOUBTFUL", x.is(10), read[i] == -2 ? 1 : 0);
            due("STRANGE", x.is(11), read[i] == -3 ? 1 : 0);
            due("one HEAP all the same", x.is(3), 1);
        }
    }

    private static String unlikeLines() {
        StringBuilder text = new StringBuilder();
        for (int i = 0; i < 60; i++) {
            text.append("t0@0:").append((char) ('A' + i / 10)).append(i % 10).append("#").append(1 + i % 9).append(';');
        }
        return text.toString();
    }

    private static void sixtyHeaps() {
        c.part("HEAPS as they come first in LINES");
        BaleTallies x = Checks.with(unlikeLines());
        due("as many as LINES", x.is(3), 60);
        for (int h = 0; h < 60; h++) {
            due("the first LINE of " + h, x.heap(h, 0), h);
            due("SHIP'S of " + h, x.heap(h, 1), 1 + h % 9);
        }
        due("ahead of the first", x.heap(-1, 0), -1);
        due("behind the last", x.heap(60, 0), -1);
        Checks.text(x, "bZZZZZZZZ:9*1;");
        due("from the first", x.brought(12, 0), 0);
        due("from the last", x.brought(71, 0), 0);
        due("from one behind it", x.brought(72, 0), -1);
        x.strike(0);
        due("one is struck", x.is(3), 59);
        due("from the last that was", x.brought(71, 0), -1);
        due("from the last", x.brought(70, 0), 0);
    }

    private static void unlikeHeaps() {
        c.part("unlike SEEN marks each one HEAP");
        BaleTallies x = Checks.with("bAAAA:9*1;t0@0:X.#1;t1@4:.X#2;t1@1:X.#3;t0@2:AAAA#4;t0@3:X#5;t0@4:X.#6;t1@0:X..#7;");
        due("HEAPS", x.is(3), 4);
        int[][] want = {{0, 7, 3}, {1, 0, 2}, {4, 5, 0}, {6, 0, 7}};
        for (int h = 0; h < 4; h++) {
            for (int what = 0; what < 3; what++) {
                due("heap(" + h + "," + what + ")", x.heap(h, what), want[h][what]);
            }
        }
        BaleTallies y = Checks.with("bA:9*1;t0@0:A#1;t1@0:A#1;");
        due("all are READ", y.is(3), 0);
        due("no HEAP", y.heap(0, 0), -1);
        due("from no HEAP", y.brought(12, 0), -1);
    }

    private static void wornOnce() {
        c.part("WORN ONCE");
        BaleTallies x = Checks.with("bA:1*1;");
        due("one SIGN", x.worn(0, 0), 0);
        due("none", x.worn(0, 1), -1);
        x.limit(1);
        due("LIMIT 1", x.worn(0, 0), 0);
        x.limit(0);
        due("LIMIT 0", x.worn(0, 0), 1);
        due("the first", x.worn(0, 1), 0);
        BaleTallies y = Checks.with("bAAAAAAAA:1*1;bAAAAAAAB:1*1;bBAAAAAAA:1*1;bXXXXXXXX:1*1;");
        due("the first SIGN and the last", y.worn(0, 0), 2);
        due("the first", y.worn(0, 1), 0);
        due("the last alone", y.worn(1, 0), 1);
        due("the last alone", y.worn(1, 1), 7);
        due("the first alone", y.worn(2, 0), 1);
        due("the first alone", y.worn(2, 1), 0);
        due("none", y.worn(3, 0), 0);
        due("none", y.worn(3, 1), -1);
        y.limit(0);
        due("all eight", y.worn(3, 0), 8);
        due("all eight", y.worn(3, 1), 0);
        BaleTallies z = Checks.with("bAB:1*1;bA:1*1;bABC:1*1;");
        due("one left out is farther than a worn one", z.worn(0, 0), 0);
        due("a single SIGN: one worn is 1, AB is 3", z.worn(1, 0), 0);
        due("the other BILLS are as they are", z.worn(2, 0), 0);
    }

    private static void twin() {
        c.part("30 twin: there is no other; of like ones the least");
        BaleTallies x = Checks.with("bB:1*1;");
        due("no other", x.twin(0, 0), -1);
        due("no other: how far", x.twin(0, 1), -1);
        Checks.text(x, "bC:1*1;");
        due("one other", x.twin(0, 0), 1);
        due("one other", x.twin(1, 0), 0);
        due("how far", x.twin(1, 1), 3);
        Checks.text(x, "bD:1*1;bE:1*1;bF:1*1;bG:1*1;bH:1*1;bI:1*1;bJ:1*1;bK:1*1;bL:1*1;bM:1*1;~MB;");
        due("the last", x.twin(0, 0), 11);
        due("the last: how far", x.twin(0, 1), 1);
        due("of like ones the least", x.twin(1, 0), 0);
        due("not itself", x.twin(11, 0), 0);
        x.back();
        due("taken back", x.twin(0, 0), 1);
        BaleTallies y = Checks.with("bAAAAAAAA:1*1;bZZZZZZZZ:1*1;");
        due("the farthest", y.twin(0, 1), 24);
    }

    private static void settledLines() {
        c.part("SETTLED: 1 to 5 DOUBTFUL LINES");
        for (int many = 0; many <= 7; many++) {
            BaleTallies x = Checks.with("bAB:10*1;bAC:10*1;t0@0:AB#1;" + "t0@0:A.#1;".repeat(many) + "t0@0:QQQQ#1;");
            Checks.law(x, "s");
            boolean well = many >= 1 && many <= 5;
            due(many + " of them", x.settled(-1), well ? 19 - many : -1);
            due("LINE 0 is READ", x.settled(0), -1);
            for (int k = 1; k <= many; k++) {
                due("LINE " + k + " of " + many, x.settled(k), well ? 0 : -1);
            }
            due("a STRANGE one", x.settled(many + 1), -1);
            due("no such LINE", x.settled(many + 2), -1);
            due("below NONE", x.settled(-2), -1);
        }
        BaleTallies y = Checks.with("bAB:10*1;bAC:10*1;" + "t0@0:A.#1;".repeat(6));
        due("six", y.settled(0), -1);
        y.strike(3);
        due("five", y.settled(0), 0);
        y.back();
        due("six again", y.settled(0), -1);
        y.limit(0);
        due("all are STRANGE", y.settled(-1), -1);
        due("no BILLS", Checks.with("t0@0:A.#1;").settled(-1), -1);
    }

    private static void settledBills() {
        c.part("SETTLED: one of the BILLS from which it is least APART");
        BaleTallies x = Checks.with("bQQQQ:99*1;bAB:1*1;bAC:9*1;bABC:9*1;t0@0:A.#9;");
        Checks.law(x, "s");
        due("not as one that is farther", x.settled(0), 2);
        due("how far all are apart", x.settled(-1), 99 + 1 + 0 + 9);
        BaleTallies y = Checks.with("bB:1*1;bC:1*1;bD:1*1;bE:1*1;bF:1*1;bG:1*1;bH:1*1;bI:1*1;bJ:1*1;bK:1*1;bL:1*1;bM:8*1;t0@0:X#8;");
        Checks.law(y, "s");
        due("the last of twelve", y.settled(0), 11);
        due("how far", y.settled(-1), 11);
        y.remark(11, 0, 8);
        due("DUE 0: each is as good, the least", y.settled(0), 0);
        due("how far", y.settled(-1), 7 + 10);
        BaleTallies z = Checks.with("bAB:1*1;bAC:9*1;" + "t0@0:A.#1;".repeat(5));
        Checks.law(z, "s");
        due("one here, four there", z.settled(-1), 5);
        due("the first LINE's BILL least", z.settled(0), 0);
        for (int k = 1; k < 5; k++) {
            due("the others", z.settled(k), 1);
        }
    }

    private static void settledLikeOnes() {
        c.part("SETTLED: of like ones the first LINE's BILL least, then the next one's");
        BaleTallies x = Checks.with("bAB:3*1;bAC:5*1;t0@0:A.#5;t0@0:A.#3;");
        Checks.law(x, "s");
        due("none apart", x.settled(-1), 0);
        due("5 bales", x.settled(0), 1);
        due("3 bales", x.settled(1), 0);
        BaleTallies y = Checks.with("bAB:4*1;bAC:4*1;t0@0:A.#4;t0@0:A.#4;");
        Checks.law(y, "s");
        due("the first LINE", y.settled(0), 0);
        due("the next one", y.settled(1), 1);
        BaleTallies z = Checks.with("bAB:4*1;bAC:4*1;t0@0:A.#4;t1@0:A.#4;t0@0:A.#1;t1@0:A.#1;");
        due("the lesser of both SIDES", z.settled(-1), 3);
        int[] want = {0, 0, 1, 1};
        for (int k = 0; k < 4; k++) {
            due("LINE " + k, z.settled(k), want[k]);
        }
    }

    private static void settledAnew() {
        c.part("SETTLED, asked again when all is different");
        BaleTallies x = Checks.with("bQQQQ:9*1;bAB:1*1;bAC:1*1;t0@0:AB#1;t0@0:AC#1;t0@0:A.#9;");
        Checks.law(x, "s");
        due("not as one that is farther, though that would be better", x.settled(-1), 18);
        due("the least of both", x.settled(2), 1);
        BaleTallies y = Checks.with("bAB:5*1;bAC:5*1;t0@0:A.#5;t0@0:AC#5;");
        Checks.law(y, "s");
        due("it fits", y.settled(-1), 0);
        due("it fits", y.settled(0), 0);
        Checks.text(y, "t0@0:AB#5;");
        due("it fits nowhere", y.settled(-1), 5);
        due("the least", y.settled(0), 0);
        y.back();
        due("it fits again", y.settled(-1), 0);
        BaleTallies z = Checks.with("bB:1*1;bC:1*1;bD:4*1;bE:4*1;t0@0:X#4;~XB;~XC;");
        Checks.law(z, "s");
        due("B or C", z.settled(-1), 3 + 1 + 4 + 4);
        due("B", z.settled(0), 0);
        z.back();
        z.back();
        Checks.text(z, "bB:1*1;bC:1*1;bD:4*1;bE:4*1;t0@0:X#4;~XD;~XE;");
        Checks.law(z, "s");
        due("D or E now", z.settled(-1), 1 + 1 + 0 + 4);
        due("D", z.settled(0), 2);
        z.remark(2, 0, 4);
        due("E, as D has none DUE", z.settled(0), 3);
        due("E", z.settled(-1), 1 + 1);
    }

    private static void curedByLimit() {
        c.part("CURED, if it is READ then");
        BaleTallies x = Checks.with("bAB:1*1;t0@0:XY#1;");
        int cured = 256 * 'X' + 'A';
        int[] limits = {4, 3, 5, 6};
        int[] want = {cured, -1, cured, -1};
        for (int i = 0; i < limits.length; i++) {
            x.limit(limits[i]);
            due("6, or 4 by a couple more; LIMIT " + limits[i], x.cure(0), want[i]);
        }
        due("it is READ", x.read(0), 0);
        BaleTallies y = Checks.with("bB:1*1;bC:1*1;bDD:1*1;t0@0:X#1;");
        due("DOUBTFUL", y.read(0), -2);
        due("the first of like ones", y.cure(0), 256 * 'X' + 'B');
        BaleTallies z = Checks.with("bBQ:1*1;bBR:1*1;t0@0:XX#1;");
        z.limit(2);
        due("by B it is DOUBTFUL or too far", z.cure(0), -1);
        z.limit(4);
        due("by B it is DOUBTFUL, by Q READ", z.cure(0), 256 * 'X' + 'Q');
        due("no such LINE", z.cure(1), -1);
        due("no such LINE", z.cure(-1), -1);
        BaleTallies w = Checks.with("bQQQQ:1*1;bRRRR:1*1;bAB:1*1;t0@0:XY#1;t0@0:AC#1;t0@0:RRR#1;");
        due("as the last BILL", w.cure(0), 256 * 'X' + 'A');
        due("READ as the last BILL", w.read(1), 2);
        due("READ as the last BILL", w.cure(1), -1);
        due("READ as the one between", w.cure(2), -1);
    }

    private static void curedSigns() {
        c.part("CURED: SIGNS from the left on (worn ones not), with A .. Z, 0 .. 9");
        String[][] cases = {{"AA", "ZZ", "ZA"}, {"ZZ", "AA", "AZ"}, {"00", "ZZ", "Z0"}, {"99", "ZZ", "Z9"}, {"99", "00", "09"},
            {"AB", "AY", "YB"}, {"ABCDEFGH", "ABCDEFGX", "XH"}, {"ABCDEFGH", "XBCDEFGH", "XA"}, {"9B", ".Y", "YB"}};
        for (String[] told : cases) {
            BaleTallies x = Checks.with("b" + told[0] + ":1*1;t0@0:" + told[1] + "#1;");
            x.limit(2);
            due(told[1] + " for " + told[0], x.cure(0), 256 * told[2].charAt(0) + told[2].charAt(1));
            x.limit(0);
            due(told[1] + " for " + told[0] + " by LIMIT 0", x.cure(0), -1);
        }
        due("all worn", Checks.with("bAAAAA:1*1;t0@0:.....#1;").cure(0), -1);
        BaleTallies y = Checks.with("bAB:1*1;t0@0:XY#1;~XA;");
        y.limit(2);
        due("X and A are LIKE: Y", y.cure(0), 256 * 'Y' + 'B');
        Checks.text(y, "~BY;");
        due("READ", y.read(0), 0);
        due("READ", y.cure(0), -1);
        y.limit(1);
        due("both are LIKE", y.cure(0), -1);
    }

    private static void curedCouples() {
        c.part("CURED: while there are fewer than 8");
        BaleTallies x = Checks.with("bAB:1*1;t0@0:XY#1;~01;~02;~03;~04;~05;~06;");
        due("six", x.cure(0), 256 * 'X' + 'A');
        Checks.text(x, "~07;");
        due("seven", x.cure(0), 256 * 'X' + 'A');
        Checks.text(x, "~08;");
        due("eight", x.cure(0), -1);
        due("it is not READ", x.read(0), -3);
        x.back();
        due("seven again", x.cure(0), 256 * 'X' + 'A');
        due("it is asked only: seven", x.is(2), 7);
        due("it is not READ", x.read(0), -3);
    }
}
