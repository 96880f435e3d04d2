/** What the tests share: a text put on the tape, and answers held against the ones that are due. */
final class Checks {
    private int wrong;
    private int asked;
    private String part = "";

    void part(String name) {
        part = name;
    }

    void due(String call, int got, int want) {
        asked++;
        if (got != want) {
            wrong++;
            System.out.println(part + ": " + call + " answered " + got + ", due is " + want);
        }
    }

    /** Ends the test program: with exit code 1, if one answer was not as due. */
    void finish() {
        System.out.println(asked + " answers asked for, " + wrong + " not as due");
        if (wrong != 0 || asked == 0) {
            System.exit(1);
        }
    }

    static void put(BaleTallies x, String s) {
        x.end(0);
        for (int i = 0; i < s.length(); i += 20) {
            int[] w = new int[5];
            for (int j = 0; j < 20; j++) {
                w[j / 4] = w[j / 4] << 8 | (i + j < s.length() ? s.charAt(i + j) : 0);
            }
            x.feed(w[0], w[1], w[2], w[3], w[4]);
        }
        x.end(s.length());
    }

    static int text(BaleTallies x, String s) {
        put(x, s);
        return x.text();
    }

    static int law(BaleTallies x, String s) {
        put(x, s);
        return x.law();
    }

    static BaleTallies with(String s) {
        BaleTallies x = new BaleTallies();
        text(x, s);
        return x;
    }

    /** A text that must be refused: its fault's place, or -2 if it was taken. */
    static int faultOf(BaleTallies x, String s) {
        return text(x, s) == BaleTallies.NONE ? x.fault() : -2;
    }

    static int lawFault(BaleTallies x, String s) {
        return law(x, s) == BaleTallies.NONE ? x.fault() : -2;
    }
}
