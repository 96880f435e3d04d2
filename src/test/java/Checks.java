import java.util.List;
import java.util.function.Consumer;
import java.util.function.ToIntFunction;

/** What the tests share: a text put on the tape, and answers held against the ones that are due. */
final class Checks {
    static final int LOW = Integer.MIN_VALUE;
    static final int HIGH = Integer.MAX_VALUE;

    private int wrong;
    private int asked;
    private String part = "";

    void part(String name) {
        part = name;
    }

    void due(String call, int got, int want) {
        asked++;
        if (got != want) {
            wrong++;
            System.out.println(part + ": " + call + " answered " + got + ", due is " + want);
        }
    }

    /** A call that is answered so, and leaves all as it was. */
    void idle(String name, Consumer<BaleTallies> run, ToIntFunction<BaleTallies> call, int want) {
        BaleTallies x = new BaleTallies();
        run.accept(x);
        due(name, call.applyAsInt(x), want);
        same(name, Image.of(run), Image.of(run.andThen(Checks::ask).andThen(call::applyAsInt)));
    }

    /** A text or law that is a fault there; it takes the tape and leaves all else as it was. */
    void faulty(String name, Consumer<BaleTallies> run, ToIntFunction<BaleTallies> call, int place) {
        BaleTallies x = new BaleTallies();
        run.accept(x);
        due(name, call.applyAsInt(x), BaleTallies.NONE);
        due(name + ": its fault", x.fault(), place);
        due(name + ": bytes of the tape", x.is(8), 0);
        same(name, Image.ofCargo(run), Image.ofCargo(run.andThen(Checks::ask).andThen(call::applyAsInt)));
    }

    /** A deed: it is one more, and taken back it leaves all but the tape and the fault's place as it was. */
    void undone(String name, Consumer<BaleTallies> run, ToIntFunction<BaleTallies> deed) {
        BaleTallies x = new BaleTallies();
        run.accept(x);
        int deeds = x.is(7);
        deed.applyAsInt(x);
        due(name + ": DEEDS", x.is(7), deeds + 1);
        due(name + ": back", x.back(), deeds);
        Consumer<BaleTallies> again = run.andThen(Checks::ask).andThen(deed::applyAsInt).andThen(Checks::ask);
        same(name + ", taken back", Image.ofCargo(run), Image.ofCargo(again.andThen(BaleTallies::back)));
    }

    /** Questions for all that an object may keep once it has worked it out. */
    private static void ask(BaleTallies x) {
        for (int k = 0; k < 12; k++) {
            x.apart(k, 0);
            x.cure(k);
        }
        x.best(0);
        x.settled(-1);
        x.settled(4);
        x.paid(-1);
        x.against(0, 0);
        x.worn(0, 0);
    }

    void same(String name, List<String> before, List<String> after) {
        int place = 0;
        while (place < before.size() && place < after.size() && before.get(place).equals(after.get(place))) {
            place++;
        }
        boolean like = place == before.size() && place == after.size();
        due(name + " leaves all as it was" + (like ? "" : ", but not at " + after.subList(place, Math.min(place + 1, after.size()))),
            like ? 0 : 1, 0);
    }

    /** Ends the test program: with exit code 1, if one answer was not as due. */
    void finish() {
        System.out.println(asked + " answers asked for, " + wrong + " not as due");
        if (wrong != 0 || asked == 0) {
            System.exit(1);
        }
    }

    static void put(BaleTallies x, String s) {
        x.end(0);
        for (int i = 0; i < s.length(); i += 20) {
            int[] w = new int[5];
            for (int j = 0; j < 20; j++) {
                w[j / 4] = w[j / 4] << 8 | (i + j < s.length() ? s.charAt(i + j) : 0);
            }
            x.feed(w[0], w[1], w[2], w[3], w[4]);
        }
        x.end(s.length());
    }

    static int text(BaleTallies x, String s) {
        put(x, s);
        return x.text();
    }

    static int law(BaleTallies x, String s) {
        put(x, s);
        return x.law();
    }

    static BaleTallies with(String s) {
        BaleTallies x = new BaleTallies();
        text(x, s);
        return x;
    }

    /** A run of deeds of most kinds, with a fault, bytes on the tape and something written behind it. */
    static void rich(BaleTallies x) {
        text(x, "bAAAA:10*51;bAABB:3*900;bZZZZ:4*7;~O0;");
        text(x, "t0@0:AAAA#6;t1@0:AAAA#7;t0@1:AABB#5;t1@1:AABB#5;t0@0:AA..#2;t1@0:AA..#3;t0@2:QQ#1;t1@2:QQ#4;t0@3:ZO#1;");
        law(x, "(s+o)/2");
        x.limit(3);
        x.far(9);
        x.pack(600);
        x.remark(0, 1, 1);
        x.remark(0, 0, 1);
        x.remark(1, 3, 7);
        x.claim(0, 1);
        x.claim(2, 3);
        x.days(7);
        x.rate(2, 3);
        x.deliver(0, 2);
        x.strike(8);
        x.write();
        text(x, "bAAAA:1");
        put(x, "t1@4:ZZZZ#2;s");
    }

    /** A text that must be refused: its fault's place, or -2 if it was taken. */
    static int faultOf(BaleTallies x, String s) {
        return text(x, s) == BaleTallies.NONE ? x.fault() : -2;
    }

    static int lawFault(BaleTallies x, String s) {
        return law(x, s) == BaleTallies.NONE ? x.fault() : -2;
    }
}
