import java.util.ArrayList;
import java.util.List;
import java.util.function.Consumer;

/** IV.: the latest 20 DEEDS can be taken back, the latest first; each kind of them, and what is none. */
public final class DeedBoundsTest {
    private static final Checks c = new Checks();

    public static void main(String[] args) {
        none();
        nineteenToForty();
        latestFirst();
        ring();
        eachKind();
        twentyOfEachKind();
        noDeeds();
        backTouchesNothingElse();
        order();
        strikeOfSixty();
        askedBetween();
        c.finish();
    }

    private static void due(String call, int got, int want) {
        c.due(call, got, want);
    }

    private static void none() {
        c.part("39 back: none");
        c.idle("of a new object", x -> { }, BaleTallies::back, -1);
        c.idle("behind a refused text", x -> Checks.text(x, "?"), BaleTallies::back, -1);
        c.idle("when all were taken back", x -> {
            x.limit(7);
            x.back();
        }, BaleTallies::back, -1);
        BaleTallies x = new BaleTallies();
        x.limit(7);
        due("one", x.back(), 0);
        due("none", x.back(), -1);
        due("none again", x.back(), -1);
        due("LIMIT", x.is(4), 4);
    }

    private static void nineteenToForty() {
        c.part("the latest 20 can be taken back");
        for (int many : new int[] {1, 2, 18, 19, 20, 21, 22, 39, 40, 41, 60}) {
            BaleTallies x = new BaleTallies();
            for (int i = 1; i <= many; i++) {
                x.pack(i);
            }
            int can = Math.min(20, many);
            due("of " + many, x.is(7), can);
            for (int i = 1; i <= can; i++) {
                due("still, of " + many, x.back(), can - i);
                due("PACKAGE, of " + many, x.is(6), many - i == 0 ? 500 : many - i);
            }
            due("no more, of " + many, x.back(), -1);
            due("PACKAGE stays, of " + many, x.is(6), many > 20 ? many - 20 : 500);
            due("DEEDS, of " + many, x.is(7), 0);
        }
    }

    private static void latestFirst() {
        c.part("the latest first");
        BaleTallies x = Checks.with("bA:9*9;");
        x.limit(7);
        x.far(7);
        x.pack(7);
        due("back", x.back(), 3);
        due("PACKAGE", x.is(6), 500);
        due("FAR is as it was", x.is(5), 7);
        due("back", x.back(), 2);
        due("FAR", x.is(5), 8);
        due("LIMIT is as it was", x.is(4), 7);
        due("back", x.back(), 1);
        due("LIMIT", x.is(4), 4);
        due("BILLS are as they were", x.is(0), 1);
        due("back", x.back(), 0);
        due("BILLS", x.is(0), 0);
        due("back", x.back(), -1);
    }

    private static void ring() {
        c.part("DEEDS behind some that were taken back");
        BaleTallies x = new BaleTallies();
        for (int i = 1; i <= 25; i++) {
            x.pack(i);
        }
        for (int i = 0; i < 10; i++) {
            x.back();
        }
        due("ten are left", x.is(7), 10);
        due("PACKAGE", x.is(6), 15);
        for (int i = 101; i <= 110; i++) {
            x.pack(i);
        }
        due("twenty", x.is(7), 20);
        x.pack(111);
        due("twenty at most", x.is(7), 20);
        for (int i = 110; i >= 101; i--) {
            x.back();
            due("PACKAGE", x.is(6), i);
        }
        for (int i = 15; i >= 7; i--) {
            x.back();
            due("PACKAGE", x.is(6), i);
        }
        due("one is left", x.back(), 0);
        due("PACKAGE", x.is(6), 6);
        due("none", x.back(), -1);
    }

    private static void eachKind() {
        c.part("each DEED, taken back");
        c.undone("text()", Checks::rich, x -> Checks.text(x, "bNEW:9*9;~AZ;t0@0:AAAA#9;t1@2:QQ#5;t1@3:NEW#5;"));
        c.undone("text() of BILLS", Checks::rich, x -> Checks.text(x, "bQQ:9*9;bAA:8*8;"));
        c.undone("text() of couples", Checks::rich, x -> Checks.text(x, "~QA;~QZ;~AB;"));
        c.undone("text() of LINES", Checks::rich, x -> Checks.text(x, "t1@0:AABB#9;t0@0:AABB#9;"));
        c.undone("text() that is empty", Checks::rich, x -> Checks.text(x, ""));
        c.undone("law()", Checks::rich, x -> Checks.law(x, "s+o+c"));
        c.undone("law() that is empty", Checks::rich, x -> Checks.law(x, ""));
        c.undone("remark() SHUT OUT", Checks::rich, x -> x.remark(0, 0, 5));
        c.undone("remark() TORN", Checks::rich, x -> x.remark(2, 1, 1));
        c.undone("remark() WET", Checks::rich, x -> x.remark(2, 2, 1));
        c.undone("remark() SAID", Checks::rich, x -> x.remark(2, 3, 1));
        c.undone("claim()", Checks::rich, x -> x.claim(2, 1));
        c.undone("claim() as it was", Checks::rich, x -> x.claim(2, 3));
        c.undone("limit()", Checks::rich, x -> x.limit(20));
        c.undone("limit() as it was", Checks::rich, x -> x.limit(3));
        c.undone("far()", Checks::rich, x -> x.far(24));
        c.undone("far() as it was", Checks::rich, x -> x.far(9));
        c.undone("pack()", Checks::rich, x -> x.pack(1));
        c.undone("pack() as it was", Checks::rich, x -> x.pack(600));
        c.undone("strike() the first", Checks::rich, x -> x.strike(0));
        c.undone("strike() one between", Checks::rich, x -> x.strike(4));
        c.undone("strike() the last", Checks::rich, x -> x.strike(7));
        c.undone("days()", Checks::rich, x -> x.days(1));
        c.undone("days() up to 99", Checks::rich, x -> x.days(99));
        c.undone("rate()", Checks::rich, x -> x.rate(99, 999));
        c.undone("rate() as it was", Checks::rich, x -> x.rate(2, 3));
        c.undone("deliver()", Checks::rich, x -> x.deliver(1, 1));
        c.undone("deliver() all", Checks::rich, x -> x.deliver(0, 7));
    }

    private static void twentyOfEachKind() {
        c.part("twenty-one of a kind");
        twentyOne("text()", i -> x -> Checks.text(x, i < 10 ? "b" + (char) ('A' + i) + ":9*9;" : "t0@0:A#9;"));
        twentyOne("law()", i -> x -> Checks.law(x, "s+" + i));
        twentyOne("limit()", i -> x -> x.limit(i));
        twentyOne("far()", i -> x -> x.far(i));
        twentyOne("claim()", i -> x -> x.claim(i % 2, i));
        twentyOne("days()", i -> x -> x.days(1 + i));
        twentyOne("rate()", i -> x -> x.rate(i, 2 * i));
        twentyOne("strike()", i -> x -> x.strike(i % 3));
        twentyOne("deliver()", i -> x -> x.deliver(0, 1));
    }

    private interface Deeds {
        Consumer<BaleTallies> of(int i);
    }

    private static void cargo(BaleTallies x) {
        Checks.text(x, "bXX:99*9;bYY:9*9;");
        Checks.text(x, "t0@0:XX#30;t1@0:XX#30;" + "t1@1:XX#2;t0@2:QQQ#3;".repeat(12));
    }

    /** Of 21 deeds the first alone stays when all are taken back that can be. */
    private static void twentyOne(String name, Deeds deeds) {
        Consumer<BaleTallies> first = x -> {
            cargo(x);
            deeds.of(0).accept(x);
        };
        Consumer<BaleTallies> all = first;
        for (int i = 1; i <= 20; i++) {
            all = all.andThen(deeds.of(i));
        }
        BaleTallies x = new BaleTallies();
        all.accept(x);
        due(name + ": DEEDS", x.is(7), 20);
        for (int i = 0; i < 20; i++) {
            all = all.andThen(BaleTallies::back);
            due(name + ": back", x.back(), 19 - i);
        }
        due(name + ": no more", x.back(), -1);
        c.same(name + ", all taken back", Image.ofState(first), Image.ofState(all));
    }

    private static void noDeeds() {
        c.part("what is no DEED");
        BaleTallies x = new BaleTallies();
        Checks.rich(x);
        due("DEEDS", x.is(7), 15);
        x.feed(1, 2, 3, 4, 5);
        due("feed", x.is(7), 15);
        x.end(0);
        due("end", x.is(7), 15);
        x.write();
        due("write", x.is(7), 15);
        Checks.text(x, "b");
        due("a text that was refused", x.is(7), 15);
        Checks.law(x, "s+");
        due("a law that was refused", x.is(7), 15);
        x.back();
        due("back itself", x.is(7), 14);
        List<Consumer<BaleTallies>> questions = new ArrayList<>();
        questions.add(y -> y.best(0));
        questions.add(y -> y.settled(4));
        questions.add(y -> y.cure(6));
        questions.add(y -> y.worn(0, 0));
        questions.add(y -> y.paid(-1));
        questions.add(y -> y.against(0, 0));
        for (Consumer<BaleTallies> question : questions) {
            c.same("a question", Image.of(Checks::rich), Image.of(((Consumer<BaleTallies>) Checks::rich).andThen(question)));
        }
    }

    private static void backTouchesNothingElse() {
        c.part("39 back: the tape, the FAULT's place and what was written stay");
        BaleTallies x = new BaleTallies();
        Checks.rich(x);
        due("bytes of the tape", x.is(8), 13);
        due("the FAULT's place", x.fault(), 1);
        int octets = 34;
        due("written", x.octet(octets - 1), ';');
        for (int i = 0; i < 15; i++) {
            x.back();
        }
        due("all was taken back", x.is(0) + x.is(1) + x.is(7), 0);
        due("bytes of the tape", x.is(8), 13);
        due("the FAULT's place", x.fault(), 1);
        due("written", x.octet(octets - 1), ';');
        due("nothing behind it", x.octet(octets), -1);
        due("the tape can still be told", x.end(12), 12);
        due("the tape can still be told", x.text(), 1);
    }

    private static void order() {
        c.part("strike(): other LINES keep their order");
        for (int struck = 0; struck < 5; struck++) {
            BaleTallies x = Checks.with("t0@0:A#1;t1@1:B#2;t0@2:C#3;t1@3:D#4;t0@4:E#5;");
            due("struck " + struck, x.strike(struck), 4);
            for (int k = 0; k < 4; k++) {
                int was = k < struck ? k : k + 1;
                due("N of " + k, x.line(k, 2), was + 1);
                due("HOLD of " + k, x.line(k, 1), was);
                due("SIDE of " + k, x.line(k, 0), was % 2);
                due("SIGN of " + k, x.line(k, 10), 'A' + was);
            }
            due("behind the last", x.line(4, 2), -1);
            due("no such LINE", x.strike(4), -1);
            x.back();
            for (int k = 0; k < 5; k++) {
                due("N of " + k + " again", x.line(k, 2), k + 1);
            }
        }
    }

    /** What was asked ahead of a DEED must not be told behind it. */
    private static void askedBetween() {
        c.part("asked ahead of a DEED, and behind it");
        BaleTallies x = Checks.with("bA:9*1;");
        Checks.text(x, "t0@0:A#1;");
        due("LINE A, BILL A", x.apart(0, 0), 0);
        x.back();
        Checks.text(x, "t0@0:B#1;");
        due("LINE B, BILL A", x.apart(0, 0), 3);
        x.back();
        x.back();
        Checks.text(x, "t0@0:B#1;");
        Checks.text(x, "bAAAA:9*1;");
        due("LINE B, BILL AAAA", x.apart(0, 0), 9);
        due("STRANGE", x.read(0), -3);
        x.back();
        Checks.text(x, "bB:9*1;");
        due("LINE B, BILL B", x.apart(0, 0), 0);
        due("READ", x.read(0), 0);
        Checks.text(x, "bC:9*1;~BC;");
        due("LINE B, BILL C, LIKE", x.apart(0, 1), 1);
        x.back();
        Checks.text(x, "bC:9*1;");
        due("LINE B, BILL C, not LIKE", x.apart(0, 1), 3);
        Checks.text(x, "~BC;");
        due("LIKE", x.apart(0, 1), 1);
        x.back();
        due("taken back", x.apart(0, 1), 3);
        Checks.text(x, "t1@0:C#2;");
        due("LINE C, BILL C", x.apart(1, 1), 0);
        x.strike(0);
        due("LINE C is the first", x.apart(0, 1), 0);
        Checks.text(x, "t1@0:BB#2;bBB:1*1;~CB;");
        due("LINE BB, BILL C, LIKE", x.apart(1, 1), 3);
        due("LINE C, BILL B, LIKE", x.apart(0, 0), 1);
        x.back();
        x.back();
        due("LINE B is the first again", x.apart(0, 0), 0);
        due("LINE C, BILL B, not LIKE", x.apart(1, 0), 3);
    }

    private static void strikeOfSixty() {
        c.part("strike() and LINES up to 60");
        BaleTallies x = new BaleTallies();
        for (int i = 0; i < 6; i++) {
            Checks.text(x, "t0@0:A#1;t0@0:B#2;t0@0:C#3;t0@0:D#4;t0@0:E#5;t1@0:A#1;t1@0:B#2;t1@0:C#3;t1@0:D#4;t1@0:E#5;");
        }
        due("the last", x.strike(59), 59);
        due("it is no more", x.strike(59), -1);
        due("the first", x.strike(0), 58);
        due("the first is what was the next", x.line(0, 2), 2);
        due("two more come", Checks.text(x, "t0@4:Y#7;t0@4:Z#9;"), 2);
        due("no more come", Checks.faultOf(x, "t0@4:Z#9;"), 0);
        due("the last", x.line(59, 2), 9);
        due("back", x.back(), 8);
        due("58", x.is(1), 58);
        due("back", x.back(), 7);
        due("59", x.is(1), 59);
        due("the first", x.line(0, 2), 1);
        due("back", x.back(), 6);
        due("60", x.is(1), 60);
        due("the last", x.line(59, 2), 5);
        due("N of the ship's", x.hold(0, 0), 90);
        due("N of the shore's", x.hold(0, 1), 90);
        int lines = 60;
        for (int i = 0; i < 60; i++) {
            lines--;
            due("struck", x.strike(lines % 2 == 0 ? 0 : lines), lines);
        }
        due("none", x.is(1), 0);
        due("none can be struck", x.strike(0), -1);
        for (int i = 0; i < 20; i++) {
            x.back();
        }
        due("twenty are there again", x.is(1), 20);
    }
}
