import java.util.ArrayList;
import java.util.List;
import java.util.function.Consumer;
import java.util.function.IntUnaryOperator;
import java.util.function.ToIntFunction;

/**
 * All that an object answers behind a run of calls, so that what a refused call leaves can be held
 * against what was. The run is made anew for every few questions: an object answers for 512 calls.
 */
final class Image {
    private static final int QUESTIONS = 150;

    private final Consumer<BaleTallies> run;
    private final List<String> answers = new ArrayList<>();
    private BaleTallies x;
    private int asked;

    private Image(Consumer<BaleTallies> run) {
        this.run = run;
        x = fresh();
    }

    /** What bills, lines, settings and what was written answer. */
    static List<String> ofState(Consumer<BaleTallies> run) {
        Image image = new Image(run);
        image.settings();
        image.bills();
        image.lines();
        image.matching();
        image.holds();
        image.octets();
        image.charges();
        return image.answers;
    }

    /** All of that, and what can be taken back. */
    static List<String> ofCargo(Consumer<BaleTallies> run) {
        List<String> all = ofState(run);
        Image image = new Image(run);
        image.deeds();
        all.addAll(image.answers);
        return all;
    }

    /** All of that, and the tape and the fault's place. */
    static List<String> of(Consumer<BaleTallies> run) {
        List<String> all = ofCargo(run);
        Image image = new Image(run);
        image.tape();
        all.addAll(image.answers);
        return all;
    }

    private BaleTallies fresh() {
        BaleTallies y = new BaleTallies();
        run.accept(y);
        asked = 0;
        return y;
    }

    private void put(String question, int answer) {
        answers.add(question + " = " + answer);
    }

    private void ask(String question, ToIntFunction<BaleTallies> call) {
        if (asked == QUESTIONS) {
            x = fresh();
        }
        asked++;
        put(question, call.applyAsInt(x));
    }

    private void askUpTo(String name, int last, IntUnaryOperator call) {
        for (int i = 0; i <= last; i++) {
            int what = i;
            ask(name + i + ")", y -> call.applyAsInt(what));
        }
    }

    private void settings() {
        for (int what = 0; what < 14; what++) {
            if (what != 7 && what != 8) {
                int w = what;
                ask("is(" + w + ")", y -> y.is(w));
            }
        }
    }

    private void bills() {
        int bills = fresh().is(0);
        ask("paid(-1)", y -> y.paid(-1));
        for (int i = 0; i <= bills; i++) {
            int b = i;
            String of = "(" + b + ",";
            askUpTo("bill" + of, 18, w -> x.bill(b, w));
            askUpTo("tally" + of, 8, w -> x.tally(b, w));
            for (int r = 0; r < 7; r++) {
                int remark = r;
                askUpTo("remarked" + of + r + ",", 1, w -> x.remarked(b, remark, w));
            }
            askUpTo("worn" + of, 1, w -> x.worn(b, w));
            askUpTo("twin" + of, 1, w -> x.twin(b, w));
            ask("paid(" + b + ")", y -> y.paid(b));
            ask("shed(" + b + ")", y -> y.shed(b));
            ask("gone(" + b + ")", y -> y.gone(b));
        }
    }

    private void lines() {
        int bills = fresh().is(0);
        int lines = fresh().is(1);
        ask("settled(-1)", y -> y.settled(-1));
        for (int i = 0; i <= lines; i++) {
            int k = i;
            String of = "(" + k;
            askUpTo("line" + of + ",", 18, w -> x.line(k, w));
            askUpTo("apart" + of + ",", bills, b -> x.apart(k, b));
            ask("read" + of + ")", y -> y.read(k));
            ask("least" + of + ")", y -> y.least(k));
            ask("settled" + of + ")", y -> y.settled(k));
            ask("cure" + of + ")", y -> y.cure(k));
        }
    }

    private void matching() {
        int bills = fresh().is(0);
        int heaps = fresh().is(3);
        askUpTo("matched(", 1, w -> x.matched(w));
        askUpTo("best(", 1, w -> x.best(w));
        for (int i = 0; i <= heaps; i++) {
            int h = i;
            askUpTo("heap(" + h + ",", 4, w -> x.heap(h, w));
        }
        for (int i = 0; i <= 12 + heaps; i++) {
            int s = i;
            askUpTo("brought(" + s + ",", bills, b -> x.brought(s, b));
        }
    }

    private void holds() {
        for (int i = 0; i < 5; i++) {
            int hold = i;
            String of = "(" + hold + ",";
            askUpTo("against" + of, 1, w -> x.against(hold, w));
            askUpTo("hold" + of, 5, w -> x.hold(hold, w));
            askUpTo("blame" + of, 1, w -> x.blame(hold, w));
            ask("close(" + hold + ")", y -> y.close(hold));
        }
    }

    private void octets() {
        askUpTo("octet(", 240, k -> x.octet(k));
    }

    /** FREE and RATE can't be asked for: what bales cost by another day tells them. */
    private void charges() {
        int bills = fresh().is(0);
        for (int days : new int[] {50, 99}) {
            x = fresh();
            ask("days(" + days + ")", y -> y.days(days));
            for (int i = 0; i < bills; i++) {
                int b = i;
                ask("then deliver(" + b + ",1)", y -> y.deliver(b, 1));
            }
        }
        x = fresh();
    }

    private void deeds() {
        BaleTallies y = fresh();
        put("DEEDS", y.is(7));
        int left = 0;
        for (int i = 0; i < 21 && left != -1; i++) {
            left = y.back();
            put("back", left);
            for (int what = 0; what < 14; what++) {
                if (what != 8) {
                    put("is(" + what + ") behind it", y.is(what));
                }
            }
            put("paid behind it", y.paid(-1));
            put("bales of hold 0 behind it", y.hold(0, 0));
        }
    }

    private void tape() {
        int size = fresh().is(8);
        put("bytes of the tape", size);
        put("fault", fresh().fault());
        BaleTallies y = fresh();
        put("text then", y.text());
        put("its fault", y.fault());
        y = fresh();
        put("law then", y.law());
        put("its fault", y.fault());
    }
}
