/** I. of the document's terms: what THE TEXT may hold, each at its bound and one beyond it, and where its FAULT is. */
public final class TextBoundsTest {
    private static final String SIGNS = "ABCDEFGHIJKLMNOPQRSTUVWXYZ0123456789";
    private static final Checks c = new Checks();

    public static void main(String[] args) {
        everyByte();
        sizeOfAMark();
        sizeOfASeenOne();
        count();
        worth();
        n();
        twelveBills();
        eightCouples();
        coupleOfLikeSigns();
        sixtyLines();
        endsTooEarly();
        wrongByte();
        toldAlready();
        firstFault();
        allOrNothing();
        emptyText();
        wholeTape();
        c.finish();
    }

    private static void due(String call, int got, int want) {
        c.due(call, got, want);
    }

    /** A text to a new object: how many items came, or, told by faultAt, where it is a fault. */
    private static int taken(String text) {
        BaleTallies x = new BaleTallies();
        int items = Checks.text(x, text);
        return items == BaleTallies.NONE ? faultAt(x.fault()) : items;
    }

    private static int faultAt(int place) {
        return -2 - place;
    }

    /** Every byte at a place: those of the list are taken, others are the fault. */
    private static void oneOf(String list, String ahead, String behind) {
        for (int i = 0; i < 256; i++) {
            int want = list.indexOf(i) >= 0 ? 1 : faultAt(ahead.length());
            due("byte " + i + " behind " + ahead, taken(ahead + (char) i + behind), want);
        }
    }

    /** Likewise where there may be one more or not: what follows could stand there, but not twice. */
    private static void oneMoreOf(String list, String ahead, String behind) {
        for (int i = 0; i < 256; i++) {
            int fault = ahead.length() + (i == behind.charAt(0) ? 1 : 0);
            due("byte " + i + " behind " + ahead, taken(ahead + (char) i + behind), list.indexOf(i) >= 0 ? 1 : faultAt(fault));
        }
    }

    private static void everyByte() {
        c.part("SIGNS: A .. Z, 0 .. 9");
        oneOf(SIGNS, "b", ":1*1;");
        oneMoreOf(SIGNS, "bABCDEFG", ":1*1;");
        for (int i = 0; i < 256; i++) {
            boolean sign = SIGNS.indexOf(i) >= 0;
            int first = i == 'Z' ? faultAt(1) : sign ? 1 : faultAt(1);
            int other = i == 'Z' ? faultAt(1) : sign ? 1 : faultAt(2);
            due("a couple's first byte " + i, taken("~" + (char) i + "Z;"), first);
            due("a couple's other byte " + i, taken("~Z" + (char) i + ";"), other);
        }
        c.part("each perhaps worn");
        oneOf(SIGNS + ".", "t0@0:", "#1;");
        oneMoreOf(SIGNS + ".", "t0@0:.......", "#1;");
        c.part("SIDE 0, 1");
        oneOf("01", "t", "@0:A#1;");
        c.part("HOLD 0 to 4");
        oneOf("01234", "t0@", ":A#1;");
        c.part("digits");
        oneOf("123456789", "bA:", "*1;");
        oneOf("123456789", "bA:1*", ";");
        oneOf("123456789", "t0@0:A#", ";");
        oneMoreOf("0123456789", "bA:99", "*1;");
        oneMoreOf("0123456789", "bA:1*999", ";");
        oneMoreOf("0123456789", "t0@0:A#99", ";");
        c.part("ITEMS");
        for (int i = 0; i < 256; i++) {
            due("first byte " + i, taken("" + (char) i), faultAt("b~t".indexOf(i) >= 0 ? 1 : 0));
        }
    }

    private static void sizeOfAMark() {
        c.part("a MARK: 1 to 8 SIGNS");
        due("none", taken("b:1*1;"), faultAt(1));
        String signs = "Z9YX0WVU";
        for (int size = 1; size <= 8; size++) {
            BaleTallies x = Checks.with("b" + signs.substring(0, size) + ":1*1;");
            due("SIGNS", x.bill(0, 2), size);
            for (int i = 0; i < size; i++) {
                due("SIGN " + i + " of " + size, x.bill(0, 10 + i), signs.charAt(i));
            }
            due("behind the last", x.bill(0, 10 + size), -1);
        }
        due("a ninth SIGN", taken("b" + signs + "A:1*1;"), faultAt(9));
        due("a ninth and a tenth", taken("b" + signs + "AA:1*1;"), faultAt(9));
        due("eight, and it ends", taken("b" + signs), faultAt(9));
        due("behind another ITEM", taken("~AB;b" + signs + "A:1*1;"), faultAt(13));
    }

    private static void sizeOfASeenOne() {
        c.part("a SEEN one: likewise");
        due("none", taken("t0@0:#1;"), faultAt(5));
        String signs = ".9.X0..U";
        for (int size = 1; size <= 8; size++) {
            BaleTallies x = Checks.with("t0@0:" + signs.substring(0, size) + "#1;");
            due("SIGNS", x.line(0, 3), size);
            for (int i = 0; i < size; i++) {
                due("SIGN " + i + " of " + size, x.line(0, 10 + i), signs.charAt(i));
            }
            due("behind the last", x.line(0, 10 + size), -1);
        }
        due("a ninth SIGN", taken("t0@0:" + signs + "A#1;"), faultAt(13));
        due("a ninth that is worn", taken("t0@0:" + signs + ".#1;"), faultAt(13));
        due("eight, and it ends", taken("t0@0:" + signs), faultAt(13));
    }

    private static void count() {
        c.part("COUNT 1 to 999");
        for (int n : new int[] {1, 2, 9, 10, 99, 100, 998, 999}) {
            due("COUNT " + n, Checks.with("bA:" + n + "*1;").bill(0, 0), n);
        }
        due("0", taken("bA:0*1;"), faultAt(3));
        due("a 0 that begins one", taken("bA:01*1;"), faultAt(3));
        due("three of them", taken("bA:000*1;"), faultAt(3));
        due("1000: the fourth digit", taken("bA:1000*1;"), faultAt(6));
        due("no digit", taken("bA:*1;"), faultAt(3));
        due("below 0", taken("bA:-1*1;"), faultAt(3));
        due("three digits, and it ends", taken("bA:999"), faultAt(6));
    }

    private static void worth() {
        c.part("WORTH 1 to 9999");
        for (int n : new int[] {1, 2, 9, 10, 99, 100, 999, 1000, 9998, 9999}) {
            due("WORTH " + n, Checks.with("bA:1*" + n + ";").bill(0, 1), n);
        }
        due("0", taken("bA:1*0;"), faultAt(5));
        due("a 0 that begins one", taken("bA:1*09;"), faultAt(5));
        due("10000: the fifth digit", taken("bA:1*10000;"), faultAt(9));
        due("no digit", taken("bA:1*;"), faultAt(5));
        due("four digits, and it ends", taken("bA:1*9999"), faultAt(9));
    }

    private static void n() {
        c.part("N 1 to 999");
        for (int n : new int[] {1, 2, 9, 10, 99, 100, 998, 999}) {
            due("N " + n, Checks.with("t0@0:A#" + n + ";").line(0, 2), n);
        }
        due("0", taken("t0@0:A#0;"), faultAt(7));
        due("a 0 that begins one", taken("t0@0:A#012;"), faultAt(7));
        due("1000: the fourth digit", taken("t0@0:A#1000;"), faultAt(10));
        due("no digit", taken("t0@0:A#;"), faultAt(7));
        due("three digits, and it ends", taken("t0@0:A#999"), faultAt(10));
        for (int side = 0; side <= 1; side++) {
            for (int hold = 0; hold <= 4; hold++) {
                BaleTallies x = Checks.with("t" + side + "@" + hold + ":A#1;");
                due("SIDE", x.line(0, 0), side);
                due("HOLD", x.line(0, 1), hold);
            }
        }
    }

    private static String bills(int many) {
        StringBuilder text = new StringBuilder();
        for (int i = 0; i < many; i++) {
            text.append('b').append((char) ('A' + i)).append(":1*1;");
        }
        return text.toString();
    }

    private static void twelveBills() {
        c.part("12 BILLS at most");
        due("11", taken(bills(11)), 11);
        due("12", taken(bills(12)), 12);
        due("13: the ITEM's first byte", taken(bills(13)), faultAt(12 * 7));
        due("other ITEMS are none of them", taken(bills(12) + "~AB;t0@0:A#1;"), 14);
        BaleTallies x = Checks.with(bills(11));
        due("a twelfth", Checks.text(x, "bX:1*1;"), 1);
        c.faulty("a thirteenth", y -> Checks.text(y, bills(12)), y -> Checks.text(y, "bY:1*1;"), 0);
        c.faulty("behind others", y -> Checks.text(y, bills(12)), y -> Checks.text(y, "~AB;t0@0:A#1;bY:1*1;"), 13);
        due("ahead of its MARK that is told", Checks.faultOf(x, "bA:1*1;"), 0);
        due("ahead of a wrong byte in it", Checks.faultOf(x, "b?"), 0);
        due("ahead of its early end", Checks.faultOf(x, "b"), 0);
        due("a couple and a LINE still come", Checks.text(x, "~AB;t0@0:A#1;"), 2);
        x.back();
        x.back();
        due("one was taken back: another comes", Checks.text(x, "bY:1*1;"), 1);
        due("and no more", Checks.faultOf(x, "bZ:1*1;"), 0);
        due("BILLS", x.is(0), 12);
        due("the last", x.bill(11, 10), 'Y');
        due("behind it", x.bill(12, 10), -1);
    }

    private static String couples(int many) {
        StringBuilder text = new StringBuilder();
        for (int i = 0; i < many; i++) {
            text.append("~").append((char) ('A' + i)).append(i).append(';');
        }
        return text.toString();
    }

    private static void eightCouples() {
        c.part("8 LIKE couples at most");
        due("7", taken(couples(7)), 7);
        due("8", taken(couples(8)), 8);
        due("9: the ITEM's first byte", taken(couples(9)), faultAt(8 * 4));
        due("other ITEMS are none of them", taken(couples(8) + "bA:1*1;t0@0:A#1;"), 10);
        BaleTallies x = Checks.with(couples(7));
        due("an eighth", Checks.text(x, "~XY;"), 1);
        c.faulty("a ninth", y -> Checks.text(y, couples(8)), y -> Checks.text(y, "~XY;"), 0);
        c.faulty("behind others", y -> Checks.text(y, couples(8)), y -> Checks.text(y, "bA:1*1;t0@0:A#1;~XY;"), 16);
        due("ahead of its SIGNS that are like", Checks.faultOf(x, "~ZZ;"), 0);
        due("ahead of its being told", Checks.faultOf(x, "~A0;"), 0);
        due("ahead of a wrong byte in it", Checks.faultOf(x, "~?"), 0);
        due("ahead of its early end", Checks.faultOf(x, "~"), 0);
        due("a BILL and a LINE still come", Checks.text(x, "bA:1*1;t0@0:A#1;"), 2);
        x.back();
        x.back();
        due("one was taken back: another comes", Checks.text(x, "~XZ;"), 1);
        due("and no more", Checks.faultOf(x, "~XY;"), 0);
        due("couples", x.is(2), 8);
    }

    private static void coupleOfLikeSigns() {
        c.part("couples of unlike SIGNS, in any order, none twice");
        for (int i = 0; i < 36; i++) {
            char sign = SIGNS.charAt(i);
            due("like SIGNS", taken("~" + sign + sign + ";"), faultAt(1));
        }
        due("told", taken("~AB;~AB;"), faultAt(5));
        due("told the other way round", taken("~AB;~BA;"), faultAt(5));
        due("one SIGN in two couples", taken("~AB;~AC;~DB;~CB;"), 4);
        due("like SIGNS behind an ITEM", taken("bA:1*1;~99;"), faultAt(8));
        BaleTallies x = Checks.with("~09;~A0;");
        due("told in an earlier text", Checks.faultOf(x, "~90;"), 1);
        due("the last one told", Checks.faultOf(x, "~0A;"), 1);
        x.back();
        due("taken back: it is told no more", Checks.text(x, "~90;"), 1);
        due("ahead of a wrong byte behind it", Checks.faultOf(x, "~09x"), 1);
        due("ahead of the end behind it", Checks.faultOf(x, "~09"), 1);
        due("like ones, ahead of a wrong byte behind them", Checks.faultOf(x, "~AAx"), 1);
        due("one SIGN alone ends too early", Checks.faultOf(x, "~0"), 2);
    }

    private static String lines(int many) {
        return "t0@0:AB#1;".repeat(many);
    }

    private static void sixtyLines() {
        c.part("60 LINES at most");
        due("59", taken(lines(59)), 59);
        due("60", taken(lines(60)), 60);
        due("61: the ITEM's first byte", taken("t0@0:A#1;".repeat(61)), faultAt(60 * 9));
        BaleTallies x = Checks.with(lines(59));
        due("a sixtieth", Checks.text(x, "t1@4:Z#9;"), 1);
        due("the last", x.line(59, 2), 9);
        due("behind it", x.line(60, 2), -1);
        c.faulty("a sixty-first", y -> Checks.text(y, lines(60)), y -> Checks.text(y, "t1@4:Z#9;"), 0);
        c.faulty("behind others", y -> Checks.text(y, lines(60)), y -> Checks.text(y, "bA:1*1;~AB;t1@4:Z#9;"), 11);
        due("ahead of a wrong byte in it", Checks.faultOf(x, "t2"), 0);
        due("ahead of its early end", Checks.faultOf(x, "t"), 0);
        due("a BILL and a couple still come", Checks.text(x, "bA:1*1;~AB;"), 2);
        due("one is struck", x.strike(0), 59);
        due("another comes", Checks.text(x, "t0@3:Y#8;"), 1);
        due("it is the last", x.line(59, 2), 8);
        due("and no more", Checks.faultOf(x, "t0@3:Y#8;"), 0);
        x.back();
        x.back();
        due("the struck one is there again", x.is(1), 60);
        due("and no more come", Checks.faultOf(x, "t0@3:Y#8;"), 0);
    }

    private static final String WELL = "bAB:12*345;~CD;t1@4:E.#67;";

    private static boolean isEnd(int place) {
        return place == 0 || WELL.charAt(place - 1) == ';';
    }

    private static void endsTooEarly() {
        c.part("its length, if it ends too early");
        int items = 0;
        for (int size = 0; size <= WELL.length(); size++) {
            items += size > 0 && isEnd(size) ? 1 : 0;
            due(WELL.substring(0, size), taken(WELL.substring(0, size)), isEnd(size) ? items : faultAt(size));
        }
    }

    private static void wrongByte() {
        c.part("the first byte with which no such text goes on");
        for (int i = 0; i <= WELL.length(); i++) {
            String ahead = WELL.substring(0, i);
            String behind = WELL.substring(i);
            due("a blank behind " + ahead, taken(ahead + ' ' + behind), faultAt(i));
            due("a line's end behind " + ahead, taken(ahead + '\n' + behind), faultAt(i));
            due("byte 0 behind " + ahead, taken(ahead + (char) 0 + behind), faultAt(i));
            due("byte 255 behind " + ahead, taken(ahead + (char) 255 + behind), faultAt(i));
        }
        for (int i = 0; i < WELL.length(); i++) {
            String ahead = WELL.substring(0, i);
            due("another byte behind " + ahead, taken(ahead + '?' + WELL.substring(i + 1)), faultAt(i));
        }
        due("without :", taken("bAB12*345;"), faultAt(5));
        due("without *", taken("bAB:12345;"), faultAt(7));
        due("without ;", taken("bAB:12*345~CD;"), faultAt(10));
        due("without ~", taken("CD;"), faultAt(0));
        due("without @", taken("t14:E.#67;"), faultAt(2));
        due("without #", taken("t1@4:E.67;"), faultAt(9));
    }

    private static void toldAlready() {
        c.part("a MARK that is told already: its first SIGN");
        due("in this text", taken("bAB:1*1;bAB:1*1;"), faultAt(9));
        due("eight SIGNS", taken("bABCDEFGH:1*1;bABCDEFGH:1*1;"), faultAt(15));
        due("eight SIGNS but for the last", taken("bABCDEFGH:1*1;bABCDEFGI:1*1;"), 2);
        due("a part of it", taken("bABC:1*1;bAB:1*1;bBC:1*1;bA:1*1;"), 4);
        due("more than it", taken("bA:1*1;bAB:1*1;bABC:1*1;bAA:1*1;"), 4);
        due("in another order", taken("bAB:1*1;bBA:1*1;"), 2);
        due("it was SEEN only", taken("t0@0:AB#1;bAB:1*1;"), 2);
        BaleTallies x = Checks.with("bXY:1*1;bAB:1*1;");
        due("the first BILL's", Checks.faultOf(x, "bXY:1*1;"), 1);
        due("the last BILL's", Checks.faultOf(x, "bAB:2*2;"), 1);
        due("behind an ITEM", Checks.faultOf(x, "t0@0:AB#1;bAB:2*2;"), 11);
        due("ahead of a COUNT of 0", Checks.faultOf(x, "bAB:0*1;"), 1);
        due("ahead of a COUNT of 1000", Checks.faultOf(x, "bAB:1000*1;"), 1);
        due("ahead of a wrong byte", Checks.faultOf(x, "bAB:1*1 "), 1);
        due("ahead of an early end", Checks.faultOf(x, "bAB:1*"), 1);
        x.back();
        due("taken back: it is told no more", Checks.text(x, "bAB:1*1;"), 1);
    }

    private static void firstFault() {
        c.part("the first FAULT");
        due("of two", taken("bA:0*0;"), faultAt(3));
        due("a wrong byte ahead of a told MARK", taken("bA:1*1;x;bA:1*1;"), faultAt(7));
        due("a told MARK ahead of a wrong byte", taken("bA:1*1;bA:1*1;x;"), faultAt(8));
        due("a told couple ahead of a told MARK", taken("bA:1*1;~AB;~AB;bA:1*1;"), faultAt(12));
        due("too many ahead of a told one", taken(bills(12) + "bM:1*1;bA:1*1;"), faultAt(84));
        due("a told one ahead of too many", taken(bills(11) + "bA:1*1;bX:1*1;bY:1*1;"), faultAt(78));
    }

    private static void allOrNothing() {
        c.part("all the text comes, or nothing of it");
        c.faulty("a MARK told in it", Checks::rich, x -> Checks.text(x, "bN:1*1;~AZ;t0@0:AAZZ#5;bN:1*1;"), 24);
        c.faulty("a couple told in it", Checks::rich, x -> Checks.text(x, "~AZ;bN:1*1;t0@0:AAZZ#5;~ZA;"), 24);
        c.faulty("its end", Checks::rich, x -> Checks.text(x, "t1@0:AAZZ#5;~AZ;~AB;bN:1*1;bO:1*1"), 33);
        c.faulty("its first byte", Checks::rich, x -> Checks.text(x, "?"), 0);
        BaleTallies x = Checks.with("bA:5*5;");
        due("refused", Checks.text(x, "bB:1*1;~AB;t0@0:B#4;x"), -1);
        due("what was refused can come", Checks.text(x, "bB:1*1;~BA;t0@0:B#4;"), 3);
        due("it is B's, as B is a BILL now", x.read(0), 1);
        due("one BILL of it", x.is(0), 2);
        due("one LINE of it", x.is(1), 1);
        due("one couple of it", x.is(2), 1);
    }

    private static void emptyText() {
        c.part("an empty text");
        BaleTallies x = new BaleTallies();
        due("no ITEM", x.text(), 0);
        due("no FAULT", x.fault(), -1);
        due("it was done", x.is(7), 1);
        due("it is taken back", x.back(), 0);
    }

    private static void wholeTape() {
        c.part("a tape of 600 bytes");
        String text = lines(59) + "t1@4:ZZ#7;";
        due("bytes", text.length(), 600);
        BaleTallies x = new BaleTallies();
        Checks.put(x, text);
        due("bytes of the tape", x.is(8), 600);
        due("ITEMS", x.text(), 60);
        due("the last", x.line(59, 2), 7);
        due("empty then", x.is(8), 0);
        due("it ends too early", taken(text.substring(0, 599) + "7"), faultAt(600));
        due("its last byte is wrong", taken(text.substring(0, 599) + "?"), faultAt(599));
        due("all bytes 255", taken("" + ((char) 255 + "").repeat(600)), faultAt(0));
    }
}
