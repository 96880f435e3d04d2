import java.util.Random;

/** Runs of calls drawn from fixed seeds, each answered by the class and by the plain model. */
public final class ModelTest {
    private static final String FEW = "AB0O8";
    private final Random random;
    private final BaleTallies x = new BaleTallies();
    private final PlainModel m = new PlainModel();
    private final StringBuilder log = new StringBuilder();
    private final int nearMost;

    private ModelTest(long seed) {
        random = new Random(seed);
        nearMost = 2 + random.nextInt(6);
    }

    public static void main(String[] args) {
        int runs = args.length > 1 ? Integer.parseInt(args[1]) : 400;
        int calls = 0;
        for (int seed = 0; seed < runs; seed++) {
            ModelTest test = new ModelTest(seed);
            int length = 60 + test.random.nextInt(450);
            for (int i = 0; i < length; i++) {
                String wrong = test.step();
                calls++;
                if (wrong != null) {
                    System.out.println("seed " + seed + ", step " + i + ": " + wrong);
                    System.out.println(test.log);
                    System.exit(1);
                }
            }
        }
        System.out.println(runs + " runs, " + calls + " steps: as the model answers");
    }

    private boolean chance(int one) {
        return random.nextInt(one) == 0;
    }

    private int wild(int low, int high) {
        if (chance(25)) {
            int[] far = {Integer.MIN_VALUE, Integer.MAX_VALUE, low - 1, high + 1, -2, -1, 1000, 10000};
            return far[random.nextInt(far.length)];
        }
        return low + random.nextInt(Math.max(1, high - low + 1));
    }

    private int anyBill() {
        return wild(0, m.now.bills.size() - 1);
    }

    private int anyLine() {
        return wild(0, m.now.lines.size() - 1);
    }

    private int what(int high) {
        return chance(10) ? random.nextInt(25) - 3 : random.nextInt(high + 1);
    }

    private char sign() {
        return chance(12) ? PlainModel.SIGNS.charAt(random.nextInt(36)) : FEW.charAt(random.nextInt(FEW.length()));
    }

    private String mark() {
        StringBuilder s = new StringBuilder();
        int size = chance(15) ? 8 + random.nextInt(2) : 1 + random.nextInt(nearMost);
        for (int i = 0; i < size; i++) {
            s.append(sign());
        }
        return s.toString();
    }

    private String seen() {
        StringBuilder s = new StringBuilder(m.now.bills.isEmpty() || chance(6) ? mark()
            : m.now.bills.get(random.nextInt(m.now.bills.size())).mark);
        int changes = random.nextInt(4);
        for (int i = 0; i < changes; i++) {
            int at = random.nextInt(s.length());
            if (chance(2)) {
                s.setCharAt(at, '.');
            } else if (chance(3) && s.length() > 1) {
                s.deleteCharAt(at);
            } else if (chance(3) && s.length() < 8) {
                s.insert(at, sign());
            } else {
                s.setCharAt(at, sign());
            }
        }
        return s.toString();
    }

    private String item() {
        int kind = random.nextInt(10);
        if (kind < 2) {
            return "b" + mark() + ":" + (chance(3) ? random.nextInt(999) : 1 + random.nextInt(20)) + "*"
                + (chance(3) ? random.nextInt(10001) : 1 + random.nextInt(600)) + ";";
        }
        if (kind < 3) {
            return "~" + sign() + sign() + ";";
        }
        return "t" + random.nextInt(2) + "@" + random.nextInt(chance(30) ? 6 : chance(2) ? 2 : 5) + ":" + seen() + "#"
            + (chance(6) ? random.nextInt(1001) : 1 + random.nextInt(12)) + ";";
    }

    private String broken(String s) {
        if (s.isEmpty()) {
            return s;
        }
        int at = random.nextInt(s.length());
        String bytes = "b~t;:*#@.0123456789ABZ()socx+-<>/ " + (char) 0 + (char) 200;
        char other = bytes.charAt(random.nextInt(bytes.length()));
        switch (random.nextInt(4)) {
            case 0: return s.substring(0, at);
            case 1: return s.substring(0, at) + other + s.substring(at + 1);
            case 2: return s.substring(0, at) + other + s.substring(at);
            default: return s.substring(0, at) + s.substring(at + 1);
        }
    }

    private String items() {
        StringBuilder s = new StringBuilder();
        int many = chance(8) ? random.nextInt(40) : random.nextInt(6);
        for (int i = 0; i < many && s.length() < 570; i++) {
            s.append(item());
        }
        return chance(6) ? broken(s.toString()) : s.toString();
    }

    private String sum(int depth) {
        StringBuilder s = new StringBuilder(thing(depth));
        int many = chance(20) ? random.nextInt(32) : random.nextInt(3);
        for (int i = 0; i < many; i++) {
            s.append("+-*/<>".charAt(random.nextInt(6))).append(thing(depth));
        }
        return s.toString();
    }

    private String thing(int depth) {
        if (depth < 10 && chance(depth == 0 ? 3 : 2)) {
            return "(" + (chance(2) ? thing(depth + 1) : sum(depth + 1)) + ")";
        }
        return chance(4) ? "" + random.nextInt(chance(3) ? 12000 : 10) : "" + "soc".charAt(random.nextInt(3));
    }

    private void put(String s) {
        String fit = s.length() > 600 ? s.substring(0, 600) : s;
        both("end(0)", x.end(0), m.end(0));
        log.append("  tape: ").append(fit).append('\n');
        for (int i = 0; i < fit.length(); i += 20) {
            int[] w = new int[5];
            for (int j = 0; j < 20; j++) {
                int octet = i + j < fit.length() ? fit.charAt(i + j) : 0;
                w[j / 4] = w[j / 4] << 8 | octet;
            }
            both("feed", x.feed(w[0], w[1], w[2], w[3], w[4]), m.feed(w));
        }
        both("end", x.end(fit.length()), m.end(fit.length()));
    }

    private String wrong;

    private void both(String call, int got, int due) {
        log.append(call).append(" -> ").append(got).append('\n');
        if (got != due && wrong == null) {
            wrong = call + " answered " + got + ", the model " + due;
        }
    }

    private String step() {
        wrong = null;
        int dice = random.nextInt(100);
        if (dice < 30) {
            change();
        } else {
            ask(random.nextInt(31));
        }
        return wrong;
    }

    private void change() {
        int a = anyBill();
        int b = anyLine();
        int n;
        switch (random.nextInt(20)) {
            case 0: case 1: case 2: case 3: case 4: case 5:
                put(items());
                both("text()", x.text(), m.text());
                both("fault()", x.fault(), m.fault);
                break;
            case 6: case 7:
                String law = chance(6) ? "" : sum(0);
                put(chance(5) ? broken(law) : law);
                both("law()", x.law(), m.law());
                both("fault()", x.fault(), m.fault);
                break;
            case 8:
                int kind = wild(0, 3);
                n = chance(3) ? wild(0, 999) : wild(0, 9);
                both("remark(" + a + "," + kind + "," + n + ")", x.remark(a, kind, n), m.remark(a, kind, n));
                break;
            case 9:
                n = wild(0, chance(2) ? 999 : 12);
                both("claim(" + a + "," + n + ")", x.claim(a, n), m.claim(a, n));
                break;
            case 10:
                n = wild(0, chance(3) ? 20 : 5);
                both("limit(" + n + ")", x.limit(n), m.limit(n));
                break;
            case 11:
                n = wild(0, 24);
                both("far(" + n + ")", x.far(n), m.far(n));
                break;
            case 12:
                n = wild(1, chance(2) ? 9999 : 300);
                both("pack(" + n + ")", x.pack(n), m.pack(n));
                break;
            case 13:
                both("strike(" + b + ")", x.strike(b), m.strike(b));
                break;
            case 14:
                n = wild(1, chance(4) ? 99 : 12);
                both("days(" + n + ")", x.days(n), m.days(n));
                break;
            case 15:
                int free = wild(0, 99) % 20;
                n = wild(0, 999);
                both("rate(" + free + "," + n + ")", x.rate(free, n), m.rate(free, n));
                break;
            case 16:
                n = wild(1, Math.max(1, m.shed(a)));
                both("deliver(" + a + "," + n + ")", x.deliver(a, n), m.deliver(a, n));
                break;
            case 17: case 18:
                int many = chance(20) ? 25 : 1 + random.nextInt(3);
                for (int i = 0; i < many; i++) {
                    both("back()", x.back(), m.back());
                }
                break;
            default:
                n = wild(0, m.tape.length());
                both("end(" + n + ")", x.end(n), m.end(n));
                int w = random.nextInt();
                both("feed(" + w + ")", x.feed(w, ~w, 0, -1, w * 31), m.feed(w, ~w, 0, -1, w * 31));
                break;
        }
    }

    private void ask(int kind) {
        int b = anyBill();
        int k = anyLine();
        int h = wild(0, 4);
        int w;
        switch (kind) {
            case 0: w = what(13); both("is(" + w + ")", x.is(w), m.is(w)); break;
            case 1: w = what(20); both("bill(" + b + "," + w + ")", x.bill(b, w), m.bill(b, w)); break;
            case 2: w = what(20); both("line(" + k + "," + w + ")", x.line(k, w), m.line(k, w)); break;
            case 3: both("apart(" + k + "," + b + ")", x.apart(k, b), m.apart(k, b)); break;
            case 4: case 5: both("read(" + k + ")", x.read(k), m.read(k)); break;
            case 6: both("least(" + k + ")", x.least(k), m.least(k)); break;
            case 7:
                int heap = wild(0, m.is(3) - 1);
                w = what(4);
                both("heap(" + heap + "," + w + ")", x.heap(heap, w), m.heap(heap, w));
                break;
            case 8: case 9: case 10:
                w = what(8); both("tally(" + b + "," + w + ")", x.tally(b, w), m.tally(b, w)); break;
            case 11:
                int s = chance(2) ? anyBill() : wild(12, 11 + m.is(3));
                both("brought(" + s + "," + b + ")", x.brought(s, b), m.brought(s, b));
                break;
            case 12: w = what(1); both("matched(" + w + ")", x.matched(w), m.matched(w)); break;
            case 13: case 14: w = what(1); both("best(" + w + ")", x.best(w), m.best(w)); break;
            case 15:
                int i = wild(0, 5);
                w = what(1);
                both("remarked(" + b + "," + i + "," + w + ")", x.remarked(b, i, w), m.remarked(b, i, w));
                break;
            case 16: w = chance(3) ? -1 : b; both("paid(" + w + ")", x.paid(w), m.paid(w)); break;
            case 17: case 18:
                w = what(1); both("against(" + h + "," + w + ")", x.against(h, w), m.against(h, w)); break;
            case 19: w = what(5); both("hold(" + h + "," + w + ")", x.hold(h, w), m.hold(h, w)); break;
            case 20: both("close(" + h + ")", x.close(h), m.close(h)); break;
            case 21: w = what(1); both("blame(" + h + "," + w + ")", x.blame(h, w), m.blame(h, w)); break;
            case 22: w = what(1); both("worn(" + b + "," + w + ")", x.worn(b, w), m.worn(b, w)); break;
            case 23: w = what(1); both("twin(" + b + "," + w + ")", x.twin(b, w), m.twin(b, w)); break;
            case 24: both("shed(" + b + ")", x.shed(b), m.shed(b)); break;
            case 25: both("gone(" + b + ")", x.gone(b), m.gone(b)); break;
            case 26: case 27:
                w = chance(3) ? -1 : k; both("settled(" + w + ")", x.settled(w), m.settled(w)); break;
            case 28: both("cure(" + k + ")", x.cure(k), m.cure(k)); break;
            case 29: both("write()", x.write(), m.write()); break;
            default: w = wild(0, m.written.length()); both("octet(" + w + ")", x.octet(w), m.octet(w)); break;
        }
    }
}
