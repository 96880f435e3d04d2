/** Lines SET AGAINST one another, holds that CLOSE, and whom to blame, each at its bound and one beyond it. */
public final class HoldBoundsTest {
    private static final Checks c = new Checks();

    public static void main(String[] args) {
        oneAgainstAnother();
        marksAgainst();
        fewestLeftOut();
        theyDontCross();
        oneSideAlone();
        mostAgainst();
        holdsApart();
        hold();
        notRead();
        unlikeMarks();
        close();
        blameOfTheShip();
        blameOfTheShore();
        blameNone();
        blameFirst();
        c.finish();
    }

    private static void due(String call, int got, int want) {
        c.due(call, got, want);
    }

    private static void costs(String name, String lines, int cost, int out) {
        BaleTallies x = Checks.with(lines);
        due(name + ": the least cost", x.against(0, 0), cost);
        due(name + ": LINES left out", x.against(0, 1), out);
    }

    private static void oneAgainstAnother() {
        c.part("of two how much N differ; of one left out N");
        costs("as many", "t0@0:A#5;t1@0:A#5;", 0, 0);
        costs("one more of the ship's", "t0@0:A#6;t1@0:A#5;", 1, 0);
        costs("one more of the shore's", "t0@0:A#5;t1@0:A#6;", 1, 0);
        costs("998 more of the ship's", "t0@0:A#999;t1@0:A#1;", 998, 0);
        costs("998 more of the shore's", "t0@0:A#1;t1@0:A#999;", 998, 0);
        costs("left out, of the ship's", "t0@0:A#999;", 999, 1);
        costs("left out, of the shore's", "t1@0:A#1;", 1, 1);
        costs("the fitting one of two", "t0@0:A#5;t1@0:A#9;t1@0:A#5;", 9, 1);
        costs("the other one of two", "t0@0:A#9;t1@0:A#9;t1@0:A#5;", 5, 1);
    }

    private static void marksAgainst() {
        c.part("how far their marks are APART");
        costs("alike", "t0@0:A#9;t1@0:A#9;", 0, 0);
        costs("else 3", "t0@0:A#9;t1@0:B#9;", 3, 0);
        costs("LIKE 1", "~AB;t0@0:A#9;t1@0:B#9;", 1, 0);
        costs("LIKE 1, the other way round", "~AB;t0@0:B#9;t1@0:A#9;", 1, 0);
        costs("the ship's worn 1", "t0@0:.#9;t1@0:B#9;", 1, 0);
        costs("the shore's worn 1 as well", "t0@0:B#9;t1@0:.#9;", 1, 0);
        costs("both worn 0", "t0@0:.#9;t1@0:.#9;", 0, 0);
        costs("both worn, all eight", "t0@0:........#9;t1@0:........#9;", 0, 0);
        costs("a SIGN left out of the ship's 2", "t0@0:AB#9;t1@0:A#9;", 2, 0);
        costs("a SIGN left out of the shore's 2", "t0@0:A#9;t1@0:AB#9;", 2, 0);
        costs("a worn one left out of the ship's 2", "t0@0:A.#9;t1@0:A#9;", 2, 0);
        costs("a worn one left out of the shore's 2", "t0@0:A#9;t1@0:A.#9;", 2, 0);
        costs("the farthest", "t0@0:AAAAAAAA#99;t1@0:BBBBBBBB#99;", 24, 0);
        costs("both: N and marks", "t0@0:AAAAAAAA#99;t1@0:BBBBBBBB#90;", 33, 0);
    }

    private static void fewestLeftOut() {
        c.part("the fewest LINES left out by which it is so");
        costs("less by 1 to stand", "t0@0:A#1;t1@0:.#1;", 1, 0);
        costs("as dear: none left out", "t0@0:A#1;t1@0:AB#1;", 2, 0);
        costs("less by 1 to be left out", "t0@0:A#1;t1@0:B#1;", 2, 2);
        costs("as dear by 24", "t0@0:AAAAAAAA#12;t1@0:BBBBBBBB#12;", 24, 0);
        costs("less to be left out", "t0@0:AAAAAAAA#11;t1@0:BBBBBBBB#12;", 23, 2);
        costs("less to stand", "t0@0:AAAAAAAA#13;t1@0:BBBBBBBB#13;", 24, 0);
        costs("two as dear, none left out", "t0@0:A#1;t0@0:B#1;t1@0:AC#1;t1@0:BC#1;", 4, 0);
        costs("one as dear, one less", "t0@0:A#1;t0@0:X#1;t1@0:AC#1;t1@0:Y#1;", 4, 2);
    }

    private static void theyDontCross() {
        c.part("they don't cross");
        costs("in their order", "t0@0:AAAA#9;t0@0:BBBB#8;t1@0:AAAA#9;t1@0:BBBB#8;", 0, 0);
        costs("crossed: the dearer ones stand", "t0@0:AAAA#9;t0@0:BBBB#4;t1@0:BBBB#4;t1@0:AAAA#9;", 8, 2);
        costs("sides by turns", "t1@0:AAAA#9;t0@0:AAAA#9;t0@0:BBBB#8;t1@0:BBBB#8;", 0, 0);
        costs("three, the middle one left out", "t0@0:AAAA#9;t0@0:CCCC#2;t0@0:BBBB#8;t1@0:AAAA#9;t1@0:BBBB#8;", 2, 1);
        BaleTallies x = Checks.with("t0@0:AAAA#9;t0@0:BBBB#4;t1@0:BBBB#4;t1@0:AAAA#9;");
        x.strike(2);
        due("one was struck", x.against(0, 0), 4);
        due("one was struck", x.against(0, 1), 1);
        x.back();
        due("taken back", x.against(0, 0), 8);
    }

    private static void oneSideAlone() {
        c.part("one SIDE alone, none");
        costs("none", "", 0, 0);
        costs("of the ship's", "t0@0:A#5;t0@0:A#5;t0@0:A#5;", 15, 3);
        costs("of the shore's", "t1@0:A#5;t1@0:A#5;t1@0:A#5;", 15, 3);
    }

    private static BaleTallies sixty(String ship, String shore) {
        BaleTallies x = new BaleTallies();
        for (int i = 0; i < 3; i++) {
            Checks.text(x, ship.repeat(10));
            Checks.text(x, shore.repeat(10));
        }
        return x;
    }

    private static void mostAgainst() {
        c.part("sixty LINES of a HOLD");
        BaleTallies x = sixty("t0@0:A#999;", "t0@0:A#999;");
        due("one SIDE", x.against(0, 0), 60 * 999);
        due("one SIDE", x.against(0, 1), 60);
        BaleTallies shores = sixty("t1@0:A#999;", "t1@0:A#999;");
        due("the other SIDE", shores.against(0, 0), 60 * 999);
        due("the other SIDE", shores.against(0, 1), 60);
        BaleTallies one = sixty("t1@0:A#2;", "t1@0:A#2;");
        one.strike(0);
        Checks.text(one, "t0@0:A#2;");
        due("one by 59", one.against(0, 0), 58 * 2);
        due("one by 59", one.against(0, 1), 58);
        BaleTallies y = sixty("t0@0:A#999;", "t1@0:B#999;");
        due("thirty by thirty", y.against(0, 0), 90);
        due("thirty by thirty", y.against(0, 1), 0);
        BaleTallies z = sixty("t0@0:AAAAAAAA#1;", "t1@0:BBBBBBBB#1;");
        due("all left out", z.against(0, 0), 60);
        due("all left out", z.against(0, 1), 60);
        BaleTallies w = sixty("t0@0:AAAAAAAA#999;", "t1@0:BBBBBBBB#1;");
        due("all left out: 1000 a couple, or 1022", w.against(0, 0), 30000);
        due("all left out", w.against(0, 1), 60);
    }

    private static void holdsApart() {
        c.part("each HOLD of its own");
        BaleTallies x = Checks.with("t0@0:A#1;t1@1:A#2;t0@2:A#3;t1@3:A#4;t0@4:A#5;t1@4:A#7;");
        int[] cost = {1, 2, 3, 4, 2};
        int[] out = {1, 1, 1, 1, 0};
        int[] close = {1, -2, 3, -4, -2};
        for (int hold = 0; hold < 5; hold++) {
            due("cost of " + hold, x.against(hold, 0), cost[hold]);
            due("left out of " + hold, x.against(hold, 1), out[hold]);
            due("close of " + hold, x.close(hold), close[hold]);
        }
    }

    private static void hold() {
        c.part("26 hold");
        BaleTallies x = sixty("t0@4:AB#999;", "t1@4:AB#998;");
        int[] want = {30 * 999, 30 * 998, 30, 30, 1, 60};
        for (int what = 0; what < 6; what++) {
            due("hold(4," + what + ")", x.hold(4, what), want[what]);
            due("hold(0," + what + ") is empty", x.hold(0, what), 0);
            due("hold(3," + what + ") is empty", x.hold(3, what), 0);
        }
        due("behind the last", x.hold(4, 6), -1);
        due("ahead of the first", x.hold(4, -1), -1);
        Checks.text(x, "bAB:1*1;");
        due("all are READ now", x.hold(4, 5), 0);
        Checks.text(x, "bAC:1*1;~BC;");
        due("the nearest is itself", x.hold(4, 5), 0);
        x.back();
        x.back();
        due("taken back", x.hold(4, 5), 60);
    }

    private static void notRead() {
        c.part("26 hold: LINES in it that are not READ");
        BaleTallies x = Checks.with("bAAAA:9*1;bBBBB:9*1;bCCCC:9*1;t0@0:AAAA#1;t1@0:BBBB#1;t0@0:CCCC#1;t1@0:AABB#1;t0@0:QQ#1;"
            + "t0@1:CCCC#1;t1@2:QQ#1;t1@2:QQ#1;");
        due("two STRANGE ones", x.hold(0, 5), 2);
        due("none", x.hold(1, 5), 0);
        due("like SEEN marks are counted as LINES", x.hold(2, 5), 2);
        due("empty", x.hold(3, 5), 0);
        x.limit(6);
        due("one is DOUBTFUL now", x.hold(0, 5), 2);
        due("one is DOUBTFUL now", x.is(10), 1);
        x.limit(0);
        due("by LIMIT 0 the others are READ", x.hold(0, 5), 2);
    }

    private static void unlikeMarks() {
        c.part("26 hold: unlike SEEN marks in its LINES");
        due("one of both SIDES", Checks.with("t0@0:A#1;t1@0:A#2;").hold(0, 4), 1);
        due("in another HOLD", Checks.with("t0@1:A#1;t1@0:A#2;").hold(0, 4), 1);
        due("worn elsewhere", Checks.with("t0@0:A.#1;t1@0:.A#2;t1@0:..#2;t1@0:A#2;").hold(0, 4), 4);
        due("again behind others", Checks.with("t0@0:A#1;t1@0:B#2;t1@0:A#2;t1@0:B#2;").hold(0, 4), 2);
        StringBuilder text = new StringBuilder();
        for (int i = 0; i < 60; i++) {
            text.append("t0@0:").append((char) ('A' + i / 10)).append(i % 10).append("#1;");
        }
        BaleTallies x = Checks.with(text.toString());
        due("sixty", x.hold(0, 4), 60);
        x.strike(59);
        due("one struck", x.hold(0, 4), 59);
    }

    private static void close() {
        c.part("CLOSE, if both sides have as many");
        due("as many", Checks.with("t0@0:A#5;t1@0:B#5;").close(0), 0);
        due("one more", Checks.with("t0@0:A#6;t1@0:B#5;").close(0), 1);
        due("one fewer", Checks.with("t0@0:A#4;t1@0:B#5;").close(0), -1);
        due("none", new BaleTallies().close(0), 0);
        due("in parts", Checks.with("t0@0:A#6;t1@0:B#5;t1@0:B#1;").close(0), 0);
        due("all of the ship's", sixty("t0@4:A#999;", "t0@4:A#999;").close(4), 59940);
        due("all of the shore's", sixty("t1@4:A#999;", "t1@4:A#999;").close(4), -59940);
        due("HOLD -1", new BaleTallies().close(-1), -1000000);
        due("HOLD 5", new BaleTallies().close(5), -1000000);
    }

    private static void blames(String name, String lines, int many, int first) {
        BaleTallies x = Checks.with(lines);
        due(name + ": how many", x.blame(0, 0), many);
        due(name + ": the first", x.blame(0, 1), first);
    }

    private static void blameOfTheShip() {
        c.part("one another N (1 to 999), the ship's has more");
        blames("the ship's 2 by 1, the shore's 1 by 2", "t0@0:A#2;t1@0:A#1;", 2, 0);
        blames("the ship's 1 by 0 can't, the shore's by 2", "t0@0:A#1;t0@0:A#1;t1@0:A#1;", 1, 2);
        blames("the ship's 3 by 1 can", "t0@0:A#3;t1@0:A#1;", 2, 0);
        blames("the ship's 3 by 0 can't, the 4 by 1 can", "t0@0:A#3;t0@0:A#4;t1@0:A#4;", 2, 1);
        blames("the shore's 998 by 999 can", "t1@0:A#998;t0@0:A#999;", 2, 0);
        blames("the shore's 999 by 1000 can't", "t1@0:A#999;t0@0:A#998;t0@0:A#2;", 2, 1);
        blames("the shore's 999 by 1000 can't, nor 1 by 0", "t1@0:A#999;t0@0:A#999;t0@0:A#1;", 1, 1);
        blames("the shore's 2 by 999 can", "t1@0:A#2;t0@0:A#999;", 2, 0);
        blames("the shore's 1 by 999 can", "t1@0:A#1;t0@0:A#998;t0@0:A#1;", 1, 0);
        blames("the shore's 1 by 1000 can't", "t1@0:A#1;t0@0:A#998;t0@0:A#2;", 0, -1);
    }

    private static void blameOfTheShore() {
        c.part("one another N (1 to 999), the shore's has more");
        blames("the shore's 2 by 1, the ship's 1 by 2", "t1@0:A#2;t0@0:A#1;", 2, 0);
        blames("the shore's 1 by 0 can't, the ship's by 2", "t1@0:A#1;t1@0:A#1;t0@0:A#1;", 1, 2);
        blames("the shore's 3 by 1 can", "t1@0:A#3;t0@0:A#1;", 2, 0);
        blames("the shore's 3 by 0 can't, the 4 by 1 can", "t1@0:A#3;t1@0:A#4;t0@0:A#4;", 2, 1);
        blames("the ship's 998 by 999 can", "t0@0:A#998;t1@0:A#999;", 2, 0);
        blames("the ship's 999 by 1000 can't", "t0@0:A#999;t1@0:A#998;t1@0:A#2;", 2, 1);
        blames("the ship's 1 by 999 can", "t0@0:A#1;t1@0:A#998;t1@0:A#1;", 1, 0);
        blames("the ship's 1 by 1000 can't", "t0@0:A#1;t1@0:A#998;t1@0:A#2;", 0, -1);
    }

    private static void blameNone() {
        c.part("0 and NONE, if it is CLOSE");
        blames("close", "t0@0:A#5;t1@0:A#5;", 0, -1);
        blames("empty", "", 0, -1);
        blames("one LINE alone: it can't be 0", "t0@0:A#1;", 0, -1);
        blames("one LINE alone: it can't be 0", "t1@0:A#999;", 0, -1);
        BaleTallies x = Checks.with("t0@0:A#5;t1@0:A#5;");
        due("what -1", x.blame(0, -1), -2);
        due("what 2", x.blame(0, 2), -2);
        due("HOLD -1", x.blame(-1, 0), -2);
        due("HOLD 5", x.blame(5, 1), -2);
    }

    private static void blameFirst() {
        c.part("LINES of a HOLD");
        BaleTallies x = Checks.with("t0@1:A#5;t0@4:A#5;t1@0:A#5;t0@0:A#6;t1@4:A#4;t0@0:A#1;");
        due("of HOLD 0", x.blame(0, 0), 2);
        due("of HOLD 0, the first", x.blame(0, 1), 2);
        due("of HOLD 1", x.blame(1, 0), 0);
        due("of HOLD 4", x.blame(4, 0), 2);
        due("of HOLD 4, the first", x.blame(4, 1), 1);
        BaleTallies y = sixty("t0@2:A#3;", "t1@2:A#3;");
        y.strike(59);
        due("29 of the shore's by 6; the ship's can't", y.blame(2, 0), 29);
        due("the first of the shore's", y.blame(2, 1), 10);
        Checks.text(y, "t1@2:A#1;");
        due("all but the last by 1 or 5, the last by 3", y.blame(2, 0), 60);
    }
}
