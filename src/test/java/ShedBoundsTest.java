/** SHED, DELIVERED, DAY, FREE, RATE and CHARGES, each at its bound and one beyond it. */
public final class ShedBoundsTest {
    private static final Checks c = new Checks();

    public static void main(String[] args) {
        agreedOrDue();
        whatWasMatched();
        lessDelivered();
        moreThanTheShed();
        lessThanWasDelivered();
        day();
        freeDays();
        rates();
        atFirst();
        chargeOfEach();
        most();
        takenBack();
        c.finish();
    }

    private static void due(String call, int got, int want) {
        c.due(call, got, want);
    }

    private static BaleTallies landed(int count, int bales) {
        return Checks.with("bAAAA:" + count + "*1;t0@0:AAAA#" + bales + ";t1@0:AAAA#" + bales + ";");
    }

    private static void agreedOrDue() {
        c.part("SHED: the lesser of AGREED and DUE");
        due("AGREED is less", landed(5, 4).shed(0), 4);
        due("as many", landed(5, 5).shed(0), 5);
        due("DUE is less", landed(5, 6).shed(0), 5);
        due("the least", landed(1, 1).shed(0), 1);
        due("the most", landed(999, 999).shed(0), 999);
        due("none landed", Checks.with("bA:5*1;").shed(0), 0);
        BaleTallies x = landed(5, 4);
        x.remark(0, 0, 1);
        due("DUE 4", x.shed(0), 4);
        x.remark(0, 0, 1);
        due("DUE 3", x.shed(0), 3);
        x.remark(0, 0, 3);
        due("DUE 0", x.shed(0), 0);
        due("no such BILL", x.shed(1), -1);
        due("no such BILL", x.shed(-1), -1);
    }

    private static void whatWasMatched() {
        c.part("SHED: and what was MATCHED to it");
        for (int n = 1; n <= 3; n++) {
            BaleTallies x = landed(5, 3);
            Checks.text(x, "t0@0:AAAAZZZ#" + n + ";t1@0:AAAAZZZ#" + n + ";");
            due(n + " were MATCHED to it at most", x.shed(0), 3 + Math.min(2, n));
            x.far(5);
            due("FAR 5: none", x.shed(0), 3);
            x.far(6);
            due("FAR 6: all", x.shed(0), 3 + Math.min(2, n));
        }
        BaleTallies y = Checks.with("bAB:5*1;bAC:2*1;t0@0:AC#4;t1@0:AC#4;");
        due("what went from an OVER BILL is not in its SHED", y.shed(1), 2);
        due("it is in the other's", y.shed(0), 2);
    }

    private static void lessDelivered() {
        c.part("SHED: less what was DELIVERED of it");
        BaleTallies x = landed(5, 4);
        for (int i = 1; i <= 4; i++) {
            due("one", x.deliver(0, 1), 0);
            due("SHED", x.shed(0), 4 - i);
            due("gone", x.gone(0), i);
        }
        due("a fifth", x.deliver(0, 1), -1);
        due("gone", x.gone(0), 4);
        BaleTallies y = landed(5, 4);
        due("all at once", y.deliver(0, 4), 0);
        due("SHED", y.shed(0), 0);
        due("gone", y.gone(0), 4);
        BaleTallies z = Checks.with("bAB:5*1;bQQQ:5*1;t0@0:AB#2;t1@0:AB#2;t0@0:QQQ#3;t1@0:QQQ#3;");
        z.deliver(1, 3);
        due("the other's is as it was", z.shed(0), 2);
        due("nothing is gone of the other", z.gone(0), 0);
    }

    private static void moreThanTheShed() {
        c.part("34 deliver: fewer than 1, more than its SHED");
        c.idle("0", x -> Checks.text(x, "bA:5*1;t0@0:A#4;t1@0:A#4;"), x -> x.deliver(0, 0), -1);
        c.idle("-1", x -> Checks.text(x, "bA:5*1;t0@0:A#4;t1@0:A#4;"), x -> x.deliver(0, -1), -1);
        c.idle("one more", x -> Checks.text(x, "bA:5*1;t0@0:A#4;t1@0:A#4;"), x -> x.deliver(0, 5), -1);
        c.idle("of an empty SHED", x -> Checks.text(x, "bA:5*1;"), x -> x.deliver(0, 1), -1);
        c.idle("none of an empty SHED", x -> Checks.text(x, "bA:5*1;"), x -> x.deliver(0, 0), -1);
        due("all", landed(5, 4).deliver(0, 4), 0);
        due("all but one", landed(5, 4).deliver(0, 3), 0);
        due("one", landed(5, 4).deliver(0, 1), 0);
    }

    private static void lessThanWasDelivered() {
        c.part("SHED: 0 at least");
        BaleTallies x = landed(5, 5);
        x.deliver(0, 3);
        int[] want = {2, 1, 0, 0, 0, 0};
        for (int i = 0; i < 5; i++) {
            due("DUE " + (5 - i), x.shed(0), want[i]);
            x.remark(0, 0, 1);
        }
        due("DUE 0", x.shed(0), 0);
        due("it is gone all the same", x.gone(0), 3);
        due("none can be DELIVERED", x.deliver(0, 1), -1);
        x.strike(0);
        due("a LINE is struck", x.shed(0), 0);
    }

    private static void day() {
        c.part("DAY 0 to 99");
        BaleTallies x = new BaleTallies();
        due("0 at first", x.is(12), 0);
        due("a day", x.days(1), 1);
        due("97 more", x.days(97), 98);
        due("one more", x.days(1), 99);
        due("99 at most", x.days(1), 99);
        due("99 at most", x.days(99), 99);
        due("DAY", x.is(12), 99);
        due("all were done", x.is(7), 5);
        x.back();
        due("taken back", x.is(12), 99);
        x.back();
        due("taken back", x.is(12), 99);
        x.back();
        due("taken back", x.is(12), 98);
        due("two more: 99 at most", x.days(2), 99);
        BaleTallies y = new BaleTallies();
        due("98 at once", y.days(98), 98);
        due("98 again", y.days(98), 99);
        due("99 at once", new BaleTallies().days(99), 99);
        c.idle("100", Checks::rich, z -> z.days(100), -1);
        c.idle("0", Checks::rich, z -> z.days(0), -1);
        c.idle("-1", Checks::rich, z -> z.days(-1), -1);
    }

    private static void freeDays() {
        c.part("as many days as DAY is above FREE (0 at least)");
        BaleTallies x = new BaleTallies();
        x.days(7);
        int[] free = {0, 1, 5, 6, 7, 8, 99};
        int[] want = {70, 60, 20, 10, 0, 0, 0};
        for (int i = 0; i < free.length; i++) {
            due("FREE " + free[i], x.rate(free[i], 10), want[i]);
        }
        x.days(99);
        int[] late = {990, 980, 940, 930, 920, 910, 0};
        for (int i = 0; i < free.length; i++) {
            due("DAY 99, FREE " + free[i], x.rate(free[i], 10), late[i]);
        }
        due("FREE 98", x.rate(98, 10), 10);
        BaleTallies y = new BaleTallies();
        due("DAY 0, FREE 0", y.rate(0, 10), 0);
        due("DAY 0, FREE 1", y.rate(1, 10), 0);
        c.idle("FREE -1", Checks::rich, z -> z.rate(-1, 1), -1);
        c.idle("FREE 100", Checks::rich, z -> z.rate(100, 1), -1);
    }

    private static void rates() {
        c.part("RATE 0 to 999");
        BaleTallies x = new BaleTallies();
        x.days(99);
        due("0", x.rate(0, 0), 0);
        due("1", x.rate(0, 1), 99);
        due("998", x.rate(0, 998), 99 * 998);
        due("999", x.rate(0, 999), 99 * 999);
        c.idle("RATE -1", Checks::rich, z -> z.rate(1, -1), -1);
        c.idle("RATE 1000", Checks::rich, z -> z.rate(1, 1000), -1);
        c.idle("both", Checks::rich, z -> z.rate(100, 1000), -1);
    }

    private static void atFirst() {
        c.part("FREE 5, RATE 1 at first");
        for (int days = 4; days <= 7; days++) {
            BaleTallies x = landed(5, 5);
            x.days(days);
            due("DAY " + days, x.deliver(0, 2), 2 * Math.max(0, days - 5));
        }
        due("DAY 0", landed(5, 5).deliver(0, 2), 0);
    }

    private static void chargeOfEach() {
        c.part("CHARGE");
        BaleTallies x = landed(20, 20);
        x.rate(2, 3);
        due("DAY 0", x.deliver(0, 1), 0);
        x.days(2);
        due("DAY 2", x.deliver(0, 2), 0);
        x.days(1);
        due("DAY 3", x.deliver(0, 2), 6);
        x.days(1);
        due("DAY 4", x.deliver(0, 3), 18);
        due("CHARGES of all", x.is(13), 24);
        x.rate(0, 0);
        due("for nothing", x.deliver(0, 4), 0);
        due("what was CHARGED stays", x.is(13), 24);
        x.days(90);
        due("what was CHARGED stays", x.is(13), 24);
        due("gone", x.gone(0), 12);
        due("a refused one", x.deliver(0, 9), -1);
        due("CHARGES of all", x.is(13), 24);
    }

    private static void most() {
        c.part("the most that can be CHARGED");
        BaleTallies x = new BaleTallies();
        for (int i = 0; i < 12; i++) {
            char sign = (char) ('A' + i);
            Checks.text(x, "b" + sign + ":999*1;t0@0:" + sign + "#999;t1@0:" + sign + "#999;");
        }
        x.days(99);
        x.rate(0, 999);
        for (int b = 0; b < 12; b++) {
            due("one BILL", x.deliver(b, 999), 98802099);
            due("CHARGES", x.is(13), (b + 1) * 98802099);
            due("SHED", x.shed(b), 0);
        }
    }

    private static void takenBack() {
        c.part("DELIVERED, taken back");
        BaleTallies x = landed(9, 9);
        x.days(10);
        x.deliver(0, 4);
        x.rate(0, 7);
        x.deliver(0, 5);
        due("CHARGES", x.is(13), 4 * 5 + 5 * 70);
        due("back", x.back(), 4);
        due("CHARGES", x.is(13), 20);
        due("gone", x.gone(0), 4);
        due("SHED", x.shed(0), 5);
        due("back", x.back(), 3);
        due("FREE and RATE as they were", x.deliver(0, 1), 5);
        x.back();
        x.back();
        due("CHARGES", x.is(13), 0);
        due("gone", x.gone(0), 0);
        x.back();
        due("DAY", x.is(12), 0);
        due("FREE again", x.deliver(0, 9), 0);
    }
}
