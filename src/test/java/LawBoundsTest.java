/** THE LAW of II.: what it may hold and what it makes, each at its bound and one beyond it, and where its FAULT is. */
public final class LawBoundsTest {
    private static final Checks c = new Checks();

    public static void main(String[] args) {
        agreedBounds();
        agreedOfAHeap();
        wrapping();
        dividing();
        lesserAndGreater();
        order();
        numbers();
        letters();
        noLaw();
        thirtyThings();
        eightWithin();
        endsTooEarly();
        wrongByte();
        itStays();
        c.finish();
    }

    private static void due(String call, int got, int want) {
        c.due(call, got, want);
    }

    /** A bill of 100 with 7 of the ship's and 3 of the shore's. */
    private static BaleTallies landed() {
        return Checks.with("bA:100*1;t0@0:A#7;t1@0:A#3;");
    }

    /** What is agreed on by a law; -1 if it is a fault. */
    private static int agreed(String law) {
        BaleTallies x = landed();
        return Checks.law(x, law) == -1 ? -1 : x.tally(0, 2);
    }

    private static void makes(String law, int want) {
        due(law, agreed(law), want);
    }

    /** How many things, or, told by faultAt, where the law is a fault. */
    private static int taken(String law) {
        BaleTallies x = new BaleTallies();
        int things = Checks.law(x, law);
        return things == BaleTallies.NONE ? faultAt(x.fault()) : things;
    }

    private static int faultAt(int place) {
        return -2 - place;
    }

    private static void agreedBounds() {
        c.part("AGREED: 0 at least, 1000000 at most");
        makes("s-6", 1);
        makes("s-7", 0);
        makes("s-8", 0);
        makes("0-9999*9999", 0);
        makes("9999*100+99", 999999);
        makes("9999*100+100", 1000000);
        makes("9999*100+101", 1000000);
        makes("9999*9999", 1000000);
        BaleTallies x = landed();
        Checks.law(x, "9999*100+100");
        due("it is OVER by what is above its COUNT", x.tally(0, 5), 999900);
        Checks.law(x, "s-8");
        due("it is SHORT by all its COUNT, no more", x.tally(0, 4), 100);
    }

    private static void agreedOfAHeap() {
        c.part("AGREED of a HEAP");
        String[] laws = {"o-1", "o-2", "o-3", "9999*100+99", "9999*100+100", "9999*100+101", "c+5", "c*s+6", "s", "o"};
        int[] want = {1, 0, 0, 999999, 1000000, 1000000, 5, 6, 4, 2};
        for (int i = 0; i < laws.length; i++) {
            BaleTallies x = Checks.with("bA:100*1;t0@0:QQQQQQ#4;t1@0:QQQQQQ#2;");
            Checks.law(x, laws[i]);
            due(laws[i], x.heap(0, 3), want[i]);
            due(laws[i] + ": it has yet", x.heap(0, 4), want[i]);
        }
    }

    private static void wrapping() {
        c.part("INTS that wrap");
        makes("8192*8192*32-1", 1000000);
        makes("(8192*8192*32-1)/9999", 214769);
        makes("8192*8192*32", 0);
        makes("8192*8192*31/9999", 208058);
        makes("8192*8192*32+8192*8192*32+5", 5);
        makes("8192*8192*64+5", 5);
        makes("0-8192*8192*32", 0);
        makes("(0-8192*8192*32-1)/9999", 214769);
        makes("(8192*8192*32)>5", 5);
        makes("5<(8192*8192*32-1)", 5);
        makes("8192*8192*32/(0-1)", 0);
        makes("(8192*8192*32/(0-1)-1)/9999", 214769);
        makes("9999*9999*9999", 0);
    }

    private static void dividing() {
        c.part("/ towards 0");
        makes("7/2", 3);
        makes("9+(0-7)/2", 6);
        makes("9+7/(0-2)", 6);
        makes("(0-7)/(0-2)", 3);
        makes("9+(0-1)/2", 9);
        makes("s/7", 1);
        makes("s/8", 0);
        makes("s/6", 1);
        c.part("/ by 0: 0");
        makes("5+7/0", 5);
        makes("5+0/0", 5);
        makes("5+(0-7)/0", 5);
        makes("5+s/(o-3)", 5);
        makes("5+s/(o-2)", 12);
        makes("9+s/(o-4)", 2);
        makes("7/0*3+1", 1);
        makes("0/7+1", 1);
    }

    private static void lesserAndGreater() {
        c.part("the lesser, the greater");
        makes("s<o", 3);
        makes("o<s", 3);
        makes("s>o", 7);
        makes("o>s", 7);
        makes("s<7", 7);
        makes("s<8", 7);
        makes("s<6", 6);
        makes("s>7", 7);
        makes("s>8", 8);
        makes("s>6", 7);
        makes("9+(0-1)<0", 8);
        makes("9+(0-1)>0", 9);
    }

    private static void order() {
        c.part("from the left, PRODUCTS ahead of SUMS");
        makes("20-5-3", 12);
        makes("20-5+3", 18);
        makes("20/3*3", 18);
        makes("3*20/3", 20);
        makes("100/5/2", 10);
        makes("2*3<4", 4);
        makes("2<3*4", 8);
        makes("9>2*3", 27);
        makes("2*9>20", 20);
        makes("1+2*3", 7);
        makes("2*3+1", 7);
        makes("9-4<2", 7);
        makes("1+4>9", 10);
        makes("8-6/2", 5);
        makes("(1+2)*3", 9);
        makes("20-(5-3)", 18);
        makes("100/(5/2)", 50);
        makes("2*(3<4)", 6);
        makes("(s-o)*(s+o)-c/(s-o+1)", 20);
    }

    private static void numbers() {
        c.part("a NUMBER: 1 to 4 digits");
        makes("0", 0);
        makes("9", 9);
        makes("10", 10);
        makes("999", 999);
        makes("1000", 1000);
        makes("9999", 9999);
        makes("0000", 0);
        makes("0001", 1);
        makes("0+09+099+0999", 1107);
        due("a fifth digit", taken("12345"), faultAt(4));
        due("a fifth digit behind zeros", taken("00012"), faultAt(4));
        due("a fifth digit in a bracket", taken("s+(12345)"), faultAt(7));
        due("no digit", taken("s+"), faultAt(2));
        due("no digit ahead", taken("+5"), faultAt(0));
        due("a sign ahead of it", taken("s*-5"), faultAt(2));
    }

    private static void letters() {
        c.part("s, o, c");
        makes("s", 7);
        makes("o", 3);
        makes("c", 100);
        for (int i = 0; i < 256; i++) {
            boolean well = "soc0123456789".indexOf(i) >= 0;
            due("a law of byte " + i, taken("" + (char) i), well ? 1 : faultAt(i == '(' ? 1 : 0));
            boolean sign = "+-*/<>".indexOf(i) >= 0;
            due("byte " + i + " between two THINGS", taken("s" + (char) i + "o"), sign ? 2 : faultAt(1));
            due("byte " + i + " behind a bracket", taken("(s)" + (char) i), faultAt(sign ? 4 : 3));
        }
    }

    private static void noLaw() {
        c.part("empty, or none: the lesser of both");
        int[][] sides = {{4, 5, 4}, {5, 5, 5}, {6, 5, 5}, {1, 999, 1}};
        for (int[] side : sides) {
            String lines = "t0@0:A#" + side[0] + ";t1@0:A#" + side[1] + ";t0@0:QQQ#" + side[0] + ";t1@0:QQQ#" + side[1] + ";";
            BaleTallies x = Checks.with("bA:100*1;" + lines);
            due("none", x.tally(0, 2), side[2]);
            due("none, of a HEAP", x.heap(0, 3), side[2]);
            Checks.law(x, "9");
            due("one", x.tally(0, 2), 9);
            due("empty: no THINGS", Checks.law(x, ""), 0);
            due("no FAULT", x.fault(), -1);
            due("empty", x.tally(0, 2), side[2]);
            due("empty, of a HEAP", x.heap(0, 3), side[2]);
            due("it was done", x.is(7), 3);
            x.back();
            due("taken back", x.tally(0, 2), 9);
        }
        due("one SIDE alone", Checks.with("bA:9*1;t0@0:A#5;").tally(0, 2), 0);
        due("no LINE", Checks.with("bA:9*1;").tally(0, 2), 0);
    }

    private static void thirtyThings() {
        c.part("30 THINGS");
        due("1", taken("s"), 1);
        due("29", taken("1+".repeat(28) + "1"), 29);
        due("30", taken("1+".repeat(29) + "1"), 30);
        due("31: its first byte", taken("1+".repeat(30) + "1"), faultAt(60));
        due("32", taken("1+".repeat(31) + "1"), faultAt(60));
        due("a NUMBER's first byte", taken("s*".repeat(30) + "1234"), faultAt(60));
        makes("1+".repeat(29) + "1", 30);
        makes("s-" + "0*".repeat(28) + "1", 7);
        due("a bracket that is the 30th holds the 31st", taken("s+".repeat(29) + "(s)"), faultAt(59));
        due("a bracket that is the 29th", taken("s+".repeat(28) + "(s)"), 30);
        due("a bracket that is the 31st", taken("s+".repeat(30) + "(s)"), faultAt(60));
        due("fifteen brackets of one THING", taken("(s)" + "+(s)".repeat(14)), 30);
        due("sixteen", taken("(s)" + "+(s)".repeat(15)), faultAt(60));
        due("a sign that is behind 30", taken("1+".repeat(29) + "1+"), faultAt(60));
        due("a wrong byte behind 30", taken("1+".repeat(29) + "1?"), faultAt(59));
        makes("c" + "-(1".repeat(7) + "+1".repeat(15) + ")".repeat(7), 84);
    }

    private static String within(int brackets, String thing) {
        return "(".repeat(brackets) + thing + ")".repeat(brackets);
    }

    private static void eightWithin() {
        c.part("8 within one another");
        for (int i = 0; i <= 7; i++) {
            due(i + " brackets around one", taken(within(i, "s")), i + 1);
            makes(within(i, "s"), 7);
        }
        due("8 around one: its first byte", taken(within(8, "s")), faultAt(8));
        due("9 around one", taken(within(9, "s")), faultAt(8));
        due("a NUMBER's first byte", taken(within(8, "1234")), faultAt(8));
        due("behind a sign", taken("s+o*" + within(8, "s")), faultAt(12));
        due("behind a sign within", taken("(".repeat(7) + "s+(o)" + ")".repeat(7)), faultAt(10));
        due("many, but none deeper", taken(within(7, "s") + "+" + within(7, "o") + "*" + within(7, "c")), 24);
        due("many in the deepest", taken(within(7, "s+o*c/2")), 11);
        due("deep again behind a bracket", taken("(" + within(6, "s") + "+" + within(6, "s") + ")"), 15);
        due("too deep behind a bracket", taken("(" + within(6, "s") + "+" + within(7, "s") + ")"), faultAt(22));
        due("it ends in the deepest", taken("(".repeat(7)), faultAt(7));
        due("a bracket that is not closed", taken("(".repeat(7) + "s" + ")".repeat(6)), faultAt(14));
        due("one closed too often", taken("(".repeat(7) + "s" + ")".repeat(8)), faultAt(15));
    }

    private static final String WELL = "s+(o*12)-c/3<((4)>5)";

    private static void endsTooEarly() {
        c.part("its length, if it ends too early");
        boolean[] well = new boolean[WELL.length() + 1];
        int[] things = new int[WELL.length() + 1];
        int[][] ends = {{0, 0}, {1, 1}, {8, 4}, {10, 5}, {12, 6}, {20, 10}};
        for (int[] end : ends) {
            well[end[0]] = true;
            things[end[0]] = end[1];
        }
        for (int size = 0; size <= WELL.length(); size++) {
            due(WELL.substring(0, size), taken(WELL.substring(0, size)), well[size] ? things[size] : faultAt(size));
        }
        due("an empty bracket", taken("()"), faultAt(1));
        due("an empty bracket behind a sign", taken("s+()"), faultAt(3));
    }

    private static void wrongByte() {
        c.part("the first byte with which no such law goes on");
        for (int i = 0; i <= WELL.length(); i++) {
            String ahead = WELL.substring(0, i);
            for (char other : new char[] {' ', '?', 0, 255, 'S', ';'}) {
                due("byte " + (int) other + " behind " + ahead, taken(ahead + other + WELL.substring(i)), faultAt(i));
            }
        }
        due("two THINGS side by side", taken("so"), faultAt(1));
        due("a bracket behind a THING", taken("s(o)"), faultAt(1));
        due("a THING behind a bracket", taken("(s)o"), faultAt(3));
        due("two signs side by side", taken("s+*o"), faultAt(2));
        due("a letter behind a NUMBER", taken("12s"), faultAt(2));
        due("all 600 bytes", taken("(".repeat(600)), faultAt(8));
        due("600 bytes of signs", taken("+".repeat(600)), faultAt(0));
    }

    private static void itStays() {
        c.part("a FAULT: THE LAW stays");
        c.faulty("at its end", Checks::rich, x -> Checks.law(x, "9999+"), 5);
        c.faulty("at once", Checks::rich, x -> Checks.law(x, "?"), 0);
        c.faulty("a THING too much", Checks::rich, x -> Checks.law(x, "1+".repeat(30) + "1"), 60);
        c.faulty("too deep", Checks::rich, x -> Checks.law(x, within(8, "5")), 8);
        c.faulty("where there was none", x -> Checks.text(x, "bA:9*1;t0@0:A#5;t1@0:A#4;"), x -> Checks.law(x, "s+"), 2);
        BaleTallies x = landed();
        Checks.law(x, "s");
        Checks.law(x, "o");
        due("refused", Checks.law(x, "c+"), -1);
        due("refused again", Checks.law(x, "c+"), -1);
        due("the latest stays", x.tally(0, 2), 3);
        x.back();
        due("the one ahead of it", x.tally(0, 2), 7);
        x.back();
        due("none", x.tally(0, 2), 3);
        refusedBetween();
    }

    private static void refusedBetween() {
        BaleTallies x = landed();
        due("refused", Checks.law(x, "s+o+"), -1);
        due("THINGS of the next", Checks.law(x, "c-o"), 2);
        due("it makes", x.tally(0, 2), 97);
        due("THINGS of another", Checks.law(x, "s"), 1);
        x.back();
        due("the one ahead of it", x.tally(0, 2), 97);
        due("refused", Checks.law(x, "5+"), -1);
        due("it stays", x.tally(0, 2), 97);
        due("THINGS", Checks.law(x, "(o)"), 2);
        due("it makes", x.tally(0, 2), 3);
        due("refused", Checks.law(x, "6+"), -1);
        due("it stays", x.tally(0, 2), 3);
        x.back();
        due("the one ahead of it", x.tally(0, 2), 97);
        due("refused", Checks.law(x, "7+"), -1);
        due("it stays", x.tally(0, 2), 97);
        x.back();
        due("none: the lesser", x.tally(0, 2), 3);
        for (int i = 0; i < 25; i++) {
            due("THINGS", Checks.law(x, "s+" + i + "*1"), 3);
            due("refused", Checks.law(x, "9999+"), -1);
            due("it makes", x.tally(0, 2), 7 + i);
        }
        for (int i = 23; i >= 4; i--) {
            x.back();
            due("the one ahead of it", x.tally(0, 2), 7 + i);
        }
    }
}
