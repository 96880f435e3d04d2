import java.util.ArrayList;
import java.util.LinkedHashSet;
import java.util.HashSet;
import java.util.List;
import java.util.Set;
import java.util.regex.Matcher;
import java.util.regex.Pattern;

/**
 * The document once more, told as plainly as can be: nothing is kept that can be worked out anew,
 * deeds are taken back by whole copies, and searches try everything.
 */
final class PlainModel {
    static final int NONE = -1;
    static final String SIGNS = "ABCDEFGHIJKLMNOPQRSTUVWXYZ0123456789";
    static final Pattern TEXT = Pattern.compile(
        "(b[A-Z0-9]{1,8}:[1-9][0-9]{0,2}\\*[1-9][0-9]{0,3};"
            + "|~[A-Z0-9]{2};"
            + "|t[01]@[0-4]:[A-Z0-9.]{1,8}#[1-9][0-9]{0,2};)*");
    static final Pattern ITEM = Pattern.compile(
        "b([A-Z0-9]{1,8}):?([0-9]*)\\*?([0-9]*);?|~([A-Z0-9])([A-Z0-9]);?|t([01])@([0-4]):([A-Z0-9.]{1,8})#([0-9]*);?|[bt~][^;]*;?");

    static final class Bill {
        String mark;
        int count;
        int worth;
        int claim;
        int gone;
        List<int[]> remarks = new ArrayList<>();

        Bill copy() {
            Bill b = new Bill();
            b.mark = mark;
            b.count = count;
            b.worth = worth;
            b.claim = claim;
            b.gone = gone;
            b.remarks = new ArrayList<>(remarks);
            return b;
        }

        int due() {
            int out = 0;
            for (int[] r : remarks) {
                out += r[0] == 0 ? r[1] : 0;
            }
            return Math.max(0, count - out);
        }
    }

    record Line(int side, int hold, String seen, int n) { }

    static final class State {
        List<Bill> bills = new ArrayList<>();
        List<Line> lines = new ArrayList<>();
        List<String> likes = new ArrayList<>();
        String law = "";
        int limit = 4;
        int far = 8;
        int pack = 500;
        int day = 0;
        int free = 5;
        int rate = 1;
        int charges = 0;

        State copy() {
            State s = new State();
            for (Bill b : bills) {
                s.bills.add(b.copy());
            }
            s.lines.addAll(lines);
            s.likes.addAll(likes);
            s.law = law;
            s.limit = limit;
            s.far = far;
            s.pack = pack;
            s.day = day;
            s.free = free;
            s.rate = rate;
            s.charges = charges;
            return s;
        }
    }

    State now = new State();
    List<State> earlier = new ArrayList<>();
    StringBuilder tape = new StringBuilder();
    String written = "";
    int fault = NONE;

    private void deed() {
        earlier.add(now.copy());
        if (earlier.size() > 20) {
            earlier.remove(0);
        }
    }

    int feed(int... words) {
        if (tape.length() + 20 > 600) {
            return NONE;
        }
        for (int w : words) {
            for (int s = 24; s >= 0; s -= 8) {
                tape.append((char) (w >>> s & 255));
            }
        }
        return tape.length();
    }

    int end(int n) {
        if (n < 0 || n > tape.length()) {
            return NONE;
        }
        tape.setLength(n);
        return n;
    }

    private static int grammarFault(String text) {
        for (int i = 1; i <= text.length(); i++) {
            Matcher m = TEXT.matcher(text.substring(0, i));
            if (!m.matches() && !m.hitEnd()) {
                return i - 1;
            }
        }
        return TEXT.matcher(text).matches() ? Integer.MAX_VALUE : text.length();
    }

    int text() {
        String text = tape.toString();
        tape.setLength(0);
        int bad = grammarFault(text);
        State next = now.copy();
        int items = 0;
        Matcher m = ITEM.matcher(text);
        int at = 0;
        while (at < Math.min(text.length(), bad) && m.find(at) && m.start() == at) {
            items++;
            char kind = text.charAt(at);
            if (kind == 'b' && next.bills.size() == 12 || kind == '~' && next.likes.size() == 8
                || kind == 't' && next.lines.size() == 60) {
                bad = Math.min(bad, at);
                break;
            }
            if (m.group(1) != null) {
                String mark = m.group(1);
                if (next.bills.stream().anyMatch(b -> b.mark.equals(mark))) {
                    bad = Math.min(bad, at + 1);
                    break;
                }
            }
            if (m.group(4) != null) {
                String couple = m.group(4) + m.group(5);
                if (m.group(4).equals(m.group(5)) || like(next, couple.charAt(0), couple.charAt(1))) {
                    bad = Math.min(bad, at + 1);
                    break;
                }
            }
            if (m.end() > bad) {
                break;
            }
            if (bad >= m.end() && m.group(1) != null && !m.group(3).isEmpty()) {
                Bill b = new Bill();
                b.mark = m.group(1);
                b.count = Integer.parseInt(m.group(2));
                b.worth = Integer.parseInt(m.group(3));
                next.bills.add(b);
            } else if (m.group(4) != null) {
                next.likes.add(m.group(4) + m.group(5));
            } else if (m.group(6) != null && !m.group(9).isEmpty()) {
                next.lines.add(new Line(Integer.parseInt(m.group(6)), Integer.parseInt(m.group(7)), m.group(8),
                    Integer.parseInt(m.group(9))));
            }
            at = m.end();
        }
        if (bad != Integer.MAX_VALUE) {
            fault = bad;
            return NONE;
        }
        fault = NONE;
        deed();
        now = next;
        return items;
    }

    /** A machine with a stack that is only counted: each byte is either expected or the fault. */
    int law() {
        String text = tape.toString();
        tape.setLength(0);
        int things = 0;
        int open = 0;
        boolean wantsThing = true;
        int bad = NONE;
        int i = 0;
        while (bad == NONE && i < text.length()) {
            char c = text.charAt(i);
            if (wantsThing) {
                if (things == 30 || open == 8) {
                    bad = i;
                } else if (c == '(') {
                    things++;
                    open++;
                    i++;
                } else if (Character.isDigit(c) && c < 128) {
                    things++;
                    int j = i;
                    while (j < text.length() && j < i + 4 && text.charAt(j) >= '0' && text.charAt(j) <= '9') {
                        j++;
                    }
                    i = j;
                    wantsThing = false;
                } else if ("soc".indexOf(c) >= 0) {
                    things++;
                    i++;
                    wantsThing = false;
                } else {
                    bad = i;
                }
            } else if (c == ')' && open > 0) {
                open--;
                i++;
            } else if ("+-*/<>".indexOf(c) >= 0) {
                i++;
                wantsThing = true;
            } else {
                bad = i;
            }
        }
        if (bad == NONE && (wantsThing || open > 0) && !text.isEmpty()) {
            bad = text.length();
        }
        fault = bad;
        if (bad != NONE) {
            return NONE;
        }
        deed();
        now.law = text;
        return things;
    }

    private static int work(String law, int s, int o, int c) {
        int depth = 0;
        int sumAt = NONE;
        int productAt = NONE;
        for (int i = 0; i < law.length(); i++) {
            char x = law.charAt(i);
            depth += x == '(' ? 1 : x == ')' ? -1 : 0;
            if (depth == 0 && "+-".indexOf(x) >= 0) {
                sumAt = i;
            }
            if (depth == 0 && "*/<>".indexOf(x) >= 0) {
                productAt = i;
            }
        }
        int at = sumAt != NONE ? sumAt : productAt;
        if (at == NONE) {
            switch (law.charAt(0)) {
                case '(': return work(law.substring(1, law.length() - 1), s, o, c);
                case 's': return s;
                case 'o': return o;
                case 'c': return c;
                default: return Integer.parseInt(law);
            }
        }
        int l = work(law.substring(0, at), s, o, c);
        int r = work(law.substring(at + 1), s, o, c);
        switch (law.charAt(at)) {
            case '+': return l + r;
            case '-': return l - r;
            case '*': return l * r;
            case '/': return r == 0 ? 0 : (int) ((long) l / r);
            case '<': return l < r ? l : r;
            default: return l > r ? l : r;
        }
    }

    private int agree(int s, int o, int c) {
        if (now.law.isEmpty()) {
            return Math.min(s, o);
        }
        return Math.max(0, Math.min(1000000, work(now.law, s, o, c)));
    }

    private static boolean like(State st, char a, char b) {
        return st.likes.contains("" + a + b) || st.likes.contains("" + b + a);
    }

    int gap(String x, String y) {
        int[][] d = new int[x.length() + 1][y.length() + 1];
        for (int i = x.length(); i >= 0; i--) {
            for (int j = y.length(); j >= 0; j--) {
                int best = i == x.length() && j == y.length() ? 0 : Integer.MAX_VALUE;
                if (i < x.length()) {
                    best = Math.min(best, 2 + d[i + 1][j]);
                }
                if (j < y.length()) {
                    best = Math.min(best, 2 + d[i][j + 1]);
                }
                if (i < x.length() && j < y.length()) {
                    char a = x.charAt(i);
                    char b = y.charAt(j);
                    int cost = a == b ? 0 : a == '.' || b == '.' || like(now, a, b) ? 1 : 3;
                    best = Math.min(best, cost + d[i + 1][j + 1]);
                }
                d[i][j] = best;
            }
        }
        return d[0][0];
    }

    List<Integer> nearest(String seen) {
        List<Integer> near = new ArrayList<>();
        int least = Integer.MAX_VALUE;
        for (int b = 0; b < now.bills.size(); b++) {
            int g = gap(seen, now.bills.get(b).mark);
            if (g < least) {
                least = g;
                near.clear();
            }
            if (g == least) {
                near.add(b);
            }
        }
        return near;
    }

    int readSeen(String seen, int limit) {
        List<Integer> near = nearest(seen);
        if (near.isEmpty() || gap(seen, now.bills.get(near.get(0)).mark) > limit) {
            return -3;
        }
        return near.size() > 1 ? -2 : near.get(0);
    }

    boolean isBill(int b) {
        return b >= 0 && b < now.bills.size();
    }

    boolean isLine(int k) {
        return k >= 0 && k < now.lines.size();
    }

    private List<String> heaps() {
        Set<String> seen = new LinkedHashSet<>();
        for (Line l : now.lines) {
            if (readSeen(l.seen, now.limit) < 0) {
                seen.add(l.seen);
            }
        }
        return new ArrayList<>(seen);
    }

    int is(int what) {
        int[] reads = new int[3];
        for (Line l : now.lines) {
            int r = readSeen(l.seen, now.limit);
            reads[r >= 0 ? 0 : -r - 1]++;
        }
        int[] all = {now.bills.size(), now.lines.size(), now.likes.size(), heaps().size(), now.limit, now.far,
            now.pack, earlier.size(), tape.length(), reads[0], reads[1], reads[2], now.day, now.charges};
        return what >= 0 && what < all.length ? all[what] : NONE;
    }

    int bill(int b, int what) {
        if (!isBill(b)) {
            return NONE;
        }
        Bill x = now.bills.get(b);
        int[] all = {x.count, x.worth, x.mark.length(), x.remarks.size(), x.claim};
        return what >= 0 && what < 5 ? all[what] : sign(x.mark, what);
    }

    private static int sign(String mark, int what) {
        return what >= 10 && what < 10 + mark.length() ? mark.charAt(what - 10) : NONE;
    }

    int line(int k, int what) {
        if (!isLine(k)) {
            return NONE;
        }
        Line x = now.lines.get(k);
        int[] all = {x.side, x.hold, x.n, x.seen.length()};
        return what >= 0 && what < 4 ? all[what] : sign(x.seen, what);
    }

    int apart(int k, int b) {
        return isLine(k) && isBill(b) ? gap(now.lines.get(k).seen, now.bills.get(b).mark) : NONE;
    }

    int read(int k) {
        return isLine(k) ? readSeen(now.lines.get(k).seen, now.limit) : NONE;
    }

    int least(int k) {
        for (int l = 0; isLine(k) && l <= 20; l++) {
            if (readSeen(now.lines.get(k).seen, l) >= 0) {
                return l;
            }
        }
        return NONE;
    }

    private int count(int side, String seen, int bill) {
        int sum = 0;
        for (Line l : now.lines) {
            if (l.side == side && (seen != null ? l.seen.equals(seen) : readSeen(l.seen, now.limit) == bill)) {
                sum += l.n;
            }
        }
        return sum;
    }

    /** Sources by number (12 and more: heaps) with what they have, bills with what they are short of. */
    private final class Matched {
        List<String> heaps = heaps();
        int[] agreed = new int[12];
        int[] have = new int[12 + heaps.size()];
        int[] over = new int[12];
        int[] wants = new int[12];
        int[] lack = new int[12];
        int[][] moved = new int[12 + heaps.size()][12];
        int bales;
        int apart;

        Matched() {
            for (int b = 0; b < now.bills.size(); b++) {
                agreed[b] = agree(count(0, null, b), count(1, null, b), now.bills.get(b).count);
                int due = now.bills.get(b).due();
                over[b] = Math.max(0, agreed[b] - due);
                wants[b] = Math.max(0, due - agreed[b]);
                have[b] = over[b];
                lack[b] = wants[b];
            }
            for (int h = 0; h < heaps.size(); h++) {
                have[12 + h] = agree(count(0, heaps.get(h), 0), count(1, heaps.get(h), 0), 0);
            }
        }

        String mark(int s) {
            return s < 12 ? now.bills.get(s).mark : heaps.get(s - 12);
        }

        Matched match() {
            List<int[]> couples = new ArrayList<>();
            for (int s = 0; s < have.length; s++) {
                for (int b = 0; b < now.bills.size(); b++) {
                    if (have[s] > 0 && lack[b] > 0) {
                        couples.add(new int[] {gap(mark(s), now.bills.get(b).mark), s, b});
                    }
                }
            }
            couples.sort((x, y) -> x[0] != y[0] ? x[0] - y[0] : x[1] != y[1] ? x[1] - y[1] : x[2] - y[2]);
            for (int[] c : couples) {
                if (c[0] <= now.far) {
                    int some = Math.min(have[c[1]], lack[c[2]]);
                    have[c[1]] -= some;
                    lack[c[2]] -= some;
                    moved[c[1]][c[2]] += some;
                    bales += some;
                    apart += some * c[0];
                }
            }
            return this;
        }

        /** Cheapest ways through the whole net of both ends and all edges, one after the other. */
        int[] best() {
            int n = have.length + 14;
            int from = n - 2;
            int to = n - 1;
            int[][] room = new int[n][n];
            int[][] cost = new int[n][n];
            for (int s = 0; s < have.length; s++) {
                room[from][12 + s] = have[s];
                for (int b = 0; b < now.bills.size() && have[s] > 0; b++) {
                    int g = gap(mark(s), now.bills.get(b).mark);
                    if (lack[b] > 0 && g <= now.far) {
                        room[12 + s][b] = Integer.MAX_VALUE / 2;
                        cost[12 + s][b] = g;
                        cost[b][12 + s] = -g;
                    }
                }
            }
            for (int b = 0; b < 12; b++) {
                room[b][to] = lack[b];
            }
            int[] sums = new int[2];
            while (true) {
                int[] dist = new int[n];
                int[] prev = new int[n];
                java.util.Arrays.fill(dist, 1 << 28);
                dist[from] = 0;
                boolean better = true;
                while (better) {
                    better = false;
                    for (int u = 0; u < n; u++) {
                        for (int v = 0; v < n; v++) {
                            if (dist[u] < 1 << 28 && room[u][v] > 0 && dist[u] + cost[u][v] < dist[v]) {
                                dist[v] = dist[u] + cost[u][v];
                                prev[v] = u;
                                better = true;
                            }
                        }
                    }
                }
                if (dist[to] >= 1 << 28) {
                    return sums;
                }
                int some = Integer.MAX_VALUE;
                for (int v = to; v != from; v = prev[v]) {
                    some = Math.min(some, room[prev[v]][v]);
                }
                for (int v = to; v != from; v = prev[v]) {
                    room[prev[v]][v] -= some;
                    room[v][prev[v]] += some;
                }
                sums[0] += some;
                sums[1] += some * dist[to];
            }
        }
    }

    int heap(int h, int what) {
        List<String> heaps = heaps();
        if (h < 0 || h >= heaps.size() || what < 0 || what > 4) {
            return NONE;
        }
        String seen = heaps.get(h);
        if (what == 0) {
            for (int k = 0; ; k++) {
                if (now.lines.get(k).seen.equals(seen)) {
                    return k;
                }
            }
        }
        int s = count(0, seen, 0);
        int o = count(1, seen, 0);
        return what == 1 ? s : what == 2 ? o : what == 3 ? agree(s, o, 0) : new Matched().match().have[12 + h];
    }

    int tally(int b, int what) {
        if (!isBill(b) || what < 0 || what > 8) {
            return NONE;
        }
        Matched m = new Matched().match();
        int to = 0;
        for (int[] row : m.moved) {
            to += row[b];
        }
        return new int[] {count(0, null, b), count(1, null, b), m.agreed[b], now.bills.get(b).due(), m.wants[b],
            m.over[b], m.lack[b], m.have[b], to}[what];
    }

    int brought(int s, int b) {
        if (!isBill(b) || !isBill(s) && (s < 12 || s >= 12 + heaps().size())) {
            return NONE;
        }
        return new Matched().match().moved[s][b];
    }

    int matched(int what) {
        Matched m = new Matched().match();
        return what == 0 ? m.bales : what == 1 ? m.apart : NONE;
    }

    int best(int what) {
        return what == 0 || what == 1 ? new Matched().best()[what] : NONE;
    }

    int remark(int b, int kind, int n) {
        if (!isBill(b) || kind < 0 || kind > 3 || n < 0 || n > 999 || now.bills.get(b).remarks.size() == 6) {
            return NONE;
        }
        deed();
        now.bills.get(b).remarks.add(new int[] {kind, n});
        return now.bills.get(b).remarks.size();
    }

    int remarked(int b, int i, int what) {
        if (!isBill(b) || i < 0 || i >= now.bills.get(b).remarks.size() || what < 0 || what > 1) {
            return NONE;
        }
        return now.bills.get(b).remarks.get(i)[what];
    }

    int claim(int b, int n) {
        if (!isBill(b) || n < 0 || n > 999) {
            return NONE;
        }
        deed();
        int was = now.bills.get(b).claim;
        now.bills.get(b).claim = n;
        return was;
    }

    int limit(int n) {
        if (n < 0 || n > 20) {
            return NONE;
        }
        deed();
        int was = now.limit;
        now.limit = n;
        return was;
    }

    int far(int n) {
        if (n < 0 || n > 24) {
            return NONE;
        }
        deed();
        int was = now.far;
        now.far = n;
        return was;
    }

    int pack(int n) {
        if (n < 1 || n > 9999) {
            return NONE;
        }
        deed();
        int was = now.pack;
        now.pack = n;
        return was;
    }

    int paid(int b) {
        if (b == NONE) {
            int sum = 0;
            for (int i = 0; i < now.bills.size(); i++) {
                sum += paid(i);
            }
            return sum;
        }
        if (!isBill(b)) {
            return -2;
        }
        Bill x = now.bills.get(b);
        int bales = Math.min(x.claim, tally(b, 6));
        int each = Math.min(x.worth, now.pack);
        int sum = bales * each;
        for (int[] r : x.remarks) {
            int n = Math.min(r[1], bales);
            sum = r[0] == 1 ? sum - n * each / 2 : r[0] == 2 ? sum - n * each / 4 : r[0] == 3 ? sum / 2 : sum;
            sum = Math.max(sum, 0);
        }
        return sum;
    }

    private List<Line> in(int hold, int side) {
        List<Line> some = new ArrayList<>();
        for (Line l : now.lines) {
            if (l.hold == hold && (side == NONE || l.side == side)) {
                some.add(l);
            }
        }
        return some;
    }

    private static int sum(List<Line> lines) {
        return lines.stream().mapToInt(Line::n).sum();
    }

    int against(int hold, int what) {
        if (hold < 0 || hold > 4 || what < 0 || what > 1) {
            return NONE;
        }
        List<Line> a = in(hold, 0);
        List<Line> b = in(hold, 1);
        int[][][] d = new int[a.size() + 1][b.size() + 1][];
        for (int i = 0; i <= a.size(); i++) {
            for (int j = 0; j <= b.size(); j++) {
                int[] best = i + j == 0 ? new int[2] : new int[] {1 << 28, 0};
                if (i > 0) {
                    best = lesser(best, d[i - 1][j], a.get(i - 1).n, 1);
                }
                if (j > 0) {
                    best = lesser(best, d[i][j - 1], b.get(j - 1).n, 1);
                }
                if (i > 0 && j > 0) {
                    Line x = a.get(i - 1);
                    Line y = b.get(j - 1);
                    best = lesser(best, d[i - 1][j - 1], Math.abs(x.n - y.n) + gap(x.seen, y.seen), 0);
                }
                d[i][j] = best;
            }
        }
        return d[a.size()][b.size()][what];
    }

    private static int[] lesser(int[] best, int[] base, int cost, int out) {
        int[] other = {base[0] + cost, base[1] + out};
        return other[0] < best[0] || other[0] == best[0] && other[1] < best[1] ? other : best;
    }

    int hold(int hold, int what) {
        if (hold < 0 || hold > 4 || what < 0 || what > 5) {
            return NONE;
        }
        Set<String> marks = new HashSet<>();
        int unread = 0;
        for (Line l : in(hold, NONE)) {
            marks.add(l.seen);
            unread += readSeen(l.seen, now.limit) < 0 ? 1 : 0;
        }
        return new int[] {sum(in(hold, 0)), sum(in(hold, 1)), in(hold, 0).size(), in(hold, 1).size(), marks.size(),
            unread}[what];
    }

    int close(int hold) {
        return hold < 0 || hold > 4 ? -1000000 : sum(in(hold, 0)) - sum(in(hold, 1));
    }

    int blame(int hold, int what) {
        if (hold < 0 || hold > 4 || what < 0 || what > 1) {
            return -2;
        }
        int many = 0;
        int first = NONE;
        for (int k = 0; k < now.lines.size() && close(hold) != 0; k++) {
            Line l = now.lines.get(k);
            boolean can = false;
            for (int n = 1; n <= 999 && l.hold == hold; n++) {
                can |= close(hold) + (l.side == 0 ? n - l.n : l.n - n) == 0;
            }
            if (can) {
                first = many++ == 0 ? k : first;
            }
        }
        return what == 0 ? many : first;
    }

    int worn(int b, int what) {
        if (!isBill(b) || what < 0 || what > 1) {
            return -2;
        }
        String mark = now.bills.get(b).mark;
        int many = 0;
        int first = NONE;
        for (int i = 0; i < mark.length(); i++) {
            if (readSeen(mark.substring(0, i) + "." + mark.substring(i + 1), now.limit) != b) {
                first = many++ == 0 ? i : first;
            }
        }
        return what == 0 ? many : first;
    }

    int twin(int b, int what) {
        int found = NONE;
        int least = NONE;
        for (int i = now.bills.size() - 1; i >= 0 && isBill(b) && (what == 0 || what == 1); i--) {
            int g = gap(now.bills.get(i).mark, now.bills.get(b).mark);
            if (i != b && (found == NONE || g <= least)) {
                found = i;
                least = g;
            }
        }
        return what == 0 ? found : least;
    }

    int shed(int b) {
        return isBill(b)
            ? Math.max(0, Math.min(tally(b, 2), tally(b, 3)) + tally(b, 8) - now.bills.get(b).gone) : NONE;
    }

    int days(int n) {
        if (n < 1 || n > 99) {
            return NONE;
        }
        deed();
        now.day = Math.min(99, now.day + n);
        return now.day;
    }

    int rate(int free, int each) {
        if (free < 0 || free > 99 || each < 0 || each > 999) {
            return NONE;
        }
        deed();
        now.free = free;
        now.rate = each;
        return now.day > free ? (now.day - free) * each : 0;
    }

    int deliver(int b, int n) {
        if (!isBill(b) || n < 1 || n > shed(b)) {
            return NONE;
        }
        deed();
        int charge = now.day > now.free ? n * (now.day - now.free) * now.rate : 0;
        now.bills.get(b).gone += n;
        now.charges += charge;
        return charge;
    }

    int gone(int b) {
        return isBill(b) ? now.bills.get(b).gone : NONE;
    }

    private int[] settledBest;
    private int settledLeast;

    int settled(int k) {
        List<Integer> doubtful = new ArrayList<>();
        for (int i = 0; i < now.lines.size(); i++) {
            if (read(i) == -2) {
                doubtful.add(i);
            }
        }
        if (doubtful.isEmpty() || doubtful.size() > 5) {
            return NONE;
        }
        settledBest = null;
        settledLeast = Integer.MAX_VALUE;
        int[][] counts = new int[2][now.bills.size()];
        for (int b = 0; b < now.bills.size(); b++) {
            counts[0][b] = count(0, null, b);
            counts[1][b] = count(1, null, b);
        }
        trySettling(doubtful, new int[doubtful.size()], 0, counts);
        return k == NONE ? settledLeast : doubtful.contains(k) ? settledBest[doubtful.indexOf(k)] : NONE;
    }

    private void trySettling(List<Integer> doubtful, int[] chosen, int i, int[][] counts) {
        if (i == chosen.length) {
            int sum = 0;
            for (int b = 0; b < now.bills.size(); b++) {
                sum += Math.abs(now.bills.get(b).due() - agree(counts[0][b], counts[1][b], now.bills.get(b).count));
            }
            if (sum < settledLeast) {
                settledLeast = sum;
                settledBest = chosen.clone();
            }
            return;
        }
        Line l = now.lines.get(doubtful.get(i));
        for (int b : nearest(l.seen)) {
            chosen[i] = b;
            counts[l.side][b] += l.n;
            trySettling(doubtful, chosen, i + 1, counts);
            counts[l.side][b] -= l.n;
        }
    }

    int cure(int k) {
        if (!isLine(k) || read(k) >= 0 || now.likes.size() == 8) {
            return NONE;
        }
        for (char a : now.lines.get(k).seen.toCharArray()) {
            for (char b : SIGNS.toCharArray()) {
                if (a != '.' && a != b && !like(now, a, b)) {
                    now.likes.add("" + a + b);
                    int r = read(k);
                    now.likes.remove(now.likes.size() - 1);
                    if (r >= 0) {
                        return 256 * a + b;
                    }
                }
            }
        }
        return NONE;
    }

    int strike(int k) {
        if (!isLine(k)) {
            return NONE;
        }
        deed();
        now.lines.remove(k);
        return now.lines.size();
    }

    int back() {
        if (earlier.isEmpty()) {
            return NONE;
        }
        now = earlier.remove(earlier.size() - 1);
        return earlier.size();
    }

    int write() {
        StringBuilder all = new StringBuilder();
        for (Bill b : now.bills) {
            all.append('b').append(b.mark).append(':').append(b.count).append('*').append(b.worth).append(';');
        }
        written = all.toString();
        return written.length();
    }

    int octet(int k) {
        return k >= 0 && k < written.length() ? written.charAt(k) : NONE;
    }
}
