import java.math.BigInteger;
import java.util.ArrayList;
import java.util.List;
import java.util.NoSuchElementException;
import java.util.Random;
import java.util.regex.Matcher;
import java.util.regex.Pattern;

/** Random runs of calls on the class and on a plain model of the document, side by side. */
public final class ModelRuns {
    private static final int RUNS = 400;
    private static final int CALLS = 120;
    private static int wrong = 0;
    private static final int[] good = new int[60];

    // ---- the model

    private static final class Cls implements Cloneable {
        long price, conv, value, money, issued, turns, full;
        int ratchet, pref, part, play;
        long[] gave = new long[8];

        Cls copy() {
            try {
                Cls c = (Cls) clone();
                c.gave = gave.clone();
                return c;
            } catch (CloneNotSupportedException e) {
                throw new IllegalStateException(e);
            }
        }
    }

    private static final class State {
        List<long[]> held = new ArrayList<>();
        List<Cls> cls = new ArrayList<>();
        long[] opts = new long[8];
        long pool;

        State() {
            held.add(new long[8]);
            cls.add(new Cls());
        }

        State copy() {
            State s = new State();
            s.held.clear();
            s.cls.clear();
            for (long[] h : held) {
                s.held.add(h.clone());
            }
            for (Cls c : cls) {
                s.cls.add(c.copy());
            }
            s.opts = opts.clone();
            s.pool = pool;
            return s;
        }

        int types() {
            return cls.size();
        }

        long conv(int c, long n) {
            return c == 0 ? n : mulDiv(n, cls.get(c).price, cls.get(c).conv);
        }

        long votes(int h) {
            long v = 0;
            for (int c = 0; c < types(); c++) {
                v += conv(c, held.get(c)[h]);
            }
            return v;
        }

        long stake(int h) {
            return votes(h) + opts[h];
        }

        long allOpts() {
            long v = 0;
            for (long o : opts) {
                v += o;
            }
            return v;
        }

        long allVotes() {
            long v = 0;
            for (int h = 0; h < 8; h++) {
                v += votes(h);
            }
            return v;
        }

        long full() {
            return allVotes() + allOpts() + pool;
        }

        long all(int c) {
            long v = 0;
            for (long n : held.get(c)) {
                v += n;
            }
            return v;
        }

        long allConv(int c) {
            long v = 0;
            for (long n : held.get(c)) {
                v += conv(c, n);
            }
            return v;
        }

        long preference(int c) {
            return big(all(c)).multiply(big(cls.get(c).price)).multiply(big(cls.get(c).pref)).divide(big(100000)).longValueExact();
        }
    }

    private static BigInteger big(long n) {
        return BigInteger.valueOf(n);
    }

    private static long mulDiv(long a, long b, long c) {
        return big(a).multiply(big(b)).divide(big(c)).longValueExact();
    }

    private static long of(long a, long b, long c) {
        return c == 0 ? 0 : mulDiv(a, b, c);
    }

    private static final String VALUE = "[1-9][0-9]{0,8}";
    private static final String CASH = "(?:100000000|[1-9][0-9]{0,7})";

    private static String cashFrom(int h) {
        return h == 7 ? "7=" + CASH : "(?:" + h + "=" + CASH + "(?:," + cashFrom(h + 1) + ")?|" + cashFrom(h + 1) + ")";
    }

    private static final Pattern ROUND = Pattern.compile("pre (" + VALUE + ")(?: pool (500|[1-4][0-9]{2}|[1-9][0-9]?|0))?( late)?"
            + "( full| broad| narrow)?(?: pref (50|[1-4][0-9]|[1-9]|0))?( part)?( play)?:(" + cashFrom(0) + ")");
    private static final Pattern NUMBERS = Pattern.compile("(?:(?:0|[1-9][0-9]{0,8})(?:,(?:0|[1-9][0-9]{0,8})){0,7})?");

    /** The first sign with which no text can begin so far, or -1 if all is well. */
    private static int badSign(Pattern pattern, String text) {
        for (int n = 0; n <= text.length(); n++) {
            Matcher m = pattern.matcher(text.substring(0, n));
            if (!m.matches() && !m.hitEnd()) {
                return n - 1;
            }
        }
        return pattern.matcher(text).matches() ? -1 : text.length();
    }

    private static final class Told {
        long value, m, top;
        boolean late;
        Cls fresh = new Cls();
        long[] money = new long[8];

        Told(String text) {
            Matcher r = ROUND.matcher(text);
            if (!r.matches()) {
                throw new IllegalStateException(text);
            }
            value = Long.parseLong(r.group(1));
            top = r.group(2) == null ? 0 : Long.parseLong(r.group(2));
            late = r.group(3) != null;
            fresh.ratchet = r.group(4) == null ? 0 : List.of(" full", " broad", " narrow").indexOf(r.group(4)) + 1;
            fresh.pref = r.group(5) == null ? 10 : Integer.parseInt(r.group(5));
            fresh.part = r.group(6) == null ? 0 : 1;
            fresh.play = r.group(7) == null ? 0 : 1;
            for (String one : r.group(8).split(",")) {
                long n = Long.parseLong(one.substring(2));
                money[one.charAt(0) - '0'] = n;
                m += n;
            }
        }
    }

    private static final class Model {
        State s = new State();
        State kept = null;
        final List<State> past = new ArrayList<>();
        int deeds = 0;
        List<Long> row = new ArrayList<>();
        final StringBuilder text = new StringBuilder();
        State dealt;
        long dealN, dealTurns, dealFull;

        boolean holder(int h) {
            return h >= 0 && h <= 7;
        }

        boolean type(int c) {
            return c >= 0 && c < s.types();
        }

        long tell(long answer, long... numbers) {
            row = new ArrayList<>();
            for (long n : numbers) {
                row.add(n);
            }
            return answer;
        }

        boolean deed(State next) {
            if (next.full() > 1000000000L) {
                return false;
            }
            past.add(s);
            if (past.size() > 8) {
                past.remove(0);
            }
            deeds++;
            s = next;
            return true;
        }

        String read() {
            String t = text.toString();
            text.setLength(0);
            return t;
        }

        State played(Told t, long[] lost, int[] bits) {
            State d = s.copy();
            for (int c = 1; c < d.types(); c++) {
                long all = d.all(c);
                for (int h = 0; h < 8 && d.cls.get(c).play == 1; h++) {
                    long own = d.held.get(c)[h];
                    if (own > 0 && t.money[h] < mulDiv(t.m, own, all)) {
                        lost[c] += own;
                        bits[0] |= 1 << h;
                        d.held.get(c)[h] = 0;
                        d.held.get(0)[h] += d.conv(c, own);
                    }
                }
            }
            return d;
        }

        long deal(Told t, long value, int ratchet) {
            if (s.types() == 6) {
                return -2;
            }
            if (value > 1000000000L) {
                return -3;
            }
            State ahead = played(t, new long[6], new int[1]);
            State d = ahead.copy();
            for (int turn = 1; turn <= 200; turn++) {
                long size = t.late ? d.full() - d.pool : d.full();
                long p = size == 0 ? 0 : 10000 * value / size;
                if (p == 0 || p > 100000000L) {
                    return -3;
                }
                long[] news = new long[8];
                long n = 0;
                for (int h = 0; h < 8; h++) {
                    news[h] = 10000 * t.money[h] / p;
                    n += news[h];
                }
                State e = d.copy();
                for (int c = 1; c < d.types(); c++) {
                    int kind = ratchet < 0 ? d.cls.get(c).ratchet : ratchet;
                    long was = ahead.cls.get(c).conv;
                    if (kind != 0 && was > p) {
                        long a = kind == 3 ? ahead.allVotes() : ahead.full();
                        e.cls.get(c).conv = kind == 1 ? p : a + n == 0 ? was : Math.max(1, Math.min(was,
                                big(was).multiply(big(a)).add(big(10000 * t.m)).divide(big(a + n)).longValueExact()));
                    }
                }
                BigInteger rest = big(e.full() - e.pool + n);
                BigInteger pool = rest.multiply(big(t.top)).divide(big(1000 - t.top));
                while (pool.multiply(big(1000)).compareTo(rest.add(pool).multiply(big(t.top))) < 0) {
                    pool = pool.add(BigInteger.ONE);
                }
                pool = pool.max(big(ahead.pool));
                if (rest.add(pool).compareTo(big(1000000000L)) > 0) {
                    return -9;
                }
                e.pool = pool.longValueExact();
                boolean same = e.pool == d.pool;
                for (int c = 1; c < d.types(); c++) {
                    same &= e.cls.get(c).conv == d.cls.get(c).conv;
                }
                if (same) {
                    dealN = n;
                    dealTurns = turn;
                    dealFull = rest.add(pool).longValueExact();
                    Cls f = t.fresh.copy();
                    f.price = p;
                    f.conv = p;
                    f.value = value;
                    f.money = t.m;
                    f.issued = n;
                    f.turns = turn;
                    f.full = dealFull;
                    f.gave = t.money.clone();
                    e.cls.add(f);
                    e.held.add(news);
                    dealt = e;
                    return p;
                }
                d = e;
            }
            return -4;
        }

        // EXIT

        int q;
        long left, sharers;
        long[] first = new long[6];

        void pay(long sum, int set) {
            left = sum;
            sharers = s.all(0) + s.allOpts();
            first = new long[6];
            for (int c = s.types() - 1; c > 0; c--) {
                if ((set & 1 << c) == 0) {
                    first[c] = Math.min(left, s.preference(c));
                    left -= first[c];
                }
                if ((set & 1 << c) != 0 || s.cls.get(c).part == 1) {
                    sharers += s.allConv(c);
                }
            }
            q = set;
        }

        boolean shares(int c) {
            return c == 0 || (q & 1 << c) != 0 || s.cls.get(c).part == 1;
        }

        long typeGets(int c) {
            return first[c] + (shares(c) ? of(left, s.allConv(c), sharers) : 0);
        }

        void exit(long sum) {
            int set = 0;
            boolean again = true;
            while (again) {
                again = false;
                for (int c = 1; c < s.types() && !again; c++) {
                    if ((set & 1 << c) == 0 && s.cls.get(c).part == 0) {
                        pay(sum, set);
                        long without = typeGets(c);
                        pay(sum, set | 1 << c);
                        if (typeGets(c) > without) {
                            set |= 1 << c;
                            again = true;
                        }
                    }
                }
            }
            pay(sum, set);
        }

        long byPreference(int h) {
            long v = 0;
            for (int c = 1; c < s.types(); c++) {
                v += of(first[c], s.held.get(c)[h], s.all(c));
            }
            return v;
        }

        long byShare(int h) {
            long v = of(left, s.opts[h], sharers);
            for (int c = 0; c < s.types(); c++) {
                v += shares(c) ? of(left, s.conv(c, s.held.get(c)[h]), sharers) : 0;
            }
            return v;
        }

        long gets(int h, long sum) {
            exit(sum);
            return byPreference(h) + byShare(h);
        }

        /** Of all sets the one that the document asks for, tried one by one. */
        long fewest(long[] w) {
            long all = 0;
            for (long n : w) {
                all += n;
            }
            int best = -1;
            long most = 0;
            for (int set = 1; set < 256; set++) {
                long v = sum(w, set);
                if (2 * v > all && (best < 0 || Integer.bitCount(set) < Integer.bitCount(best)
                        || Integer.bitCount(set) == Integer.bitCount(best) && v > most)) {
                    best = set;
                    most = v;
                }
            }
            return best < 0 ? -2 : tell(Integer.bitCount(best), best);
        }

        long sum(long[] w, int set) {
            long v = 0;
            for (int h = 0; h < 8; h++) {
                v += (set & 1 << h) != 0 ? w[h] : 0;
            }
            return v;
        }

        long[] votes() {
            long[] w = new long[8];
            for (int h = 0; h < 8; h++) {
                w[h] = s.votes(h);
            }
            return w;
        }

        long call(String op, int a, int b, int c, int d) {
            State n = s.copy();
            switch (op) {
                case "sign":
                    if (text.length() > 196) {
                        return -1;
                    }
                    for (int i = 3; i >= 0; i--) {
                        text.append((char) (a >> 8 * i & 255));
                    }
                    return text.length();
                case "end":
                    if (a < 0 || a > text.length()) {
                        return 0;
                    }
                    text.setLength(a);
                    return 1;
                case "founds": {
                    String t = read();
                    int bad = badSign(NUMBERS, t);
                    if (bad >= 0) {
                        return -21 - bad;
                    }
                    n = new State();
                    String[] parts = t.isEmpty() ? new String[0] : t.split(",");
                    for (int i = 0; i < parts.length; i++) {
                        n.held.get(0)[i] = Long.parseLong(parts[i]);
                    }
                    return deed(n) ? s.full() : -9;
                }
                case "issues":
                    if (!holder(a) || b < 1) {
                        return -1;
                    }
                    n.held.get(0)[a] += b;
                    return deed(n) ? s.full() : -9;
                case "cancels":
                    if (!holder(a) || !type(b) || c < 1) {
                        return -1;
                    }
                    if (n.held.get(b)[a] < c) {
                        return -2;
                    }
                    n.held.get(b)[a] -= c;
                    deed(n);
                    return s.full();
                case "pool":
                    if (a < 0) {
                        return -1;
                    }
                    n.pool = a;
                    long was = s.pool;
                    return deed(n) ? was : -9;
                case "grant":
                    if (!holder(a) || b < 1) {
                        return -1;
                    }
                    if (n.pool < b) {
                        return -2;
                    }
                    n.pool -= b;
                    n.opts[a] += b;
                    deed(n);
                    return s.pool;
                case "exercise":
                case "lapses":
                    if (!holder(a) || b < 1) {
                        return -1;
                    }
                    if (n.opts[a] < b) {
                        return -2;
                    }
                    n.opts[a] -= b;
                    if (op.equals("lapses")) {
                        n.pool += b;
                    } else {
                        n.held.get(0)[a] += b;
                    }
                    deed(n);
                    return op.equals("lapses") ? s.pool : s.opts[a];
                case "sells":
                    if (!holder(a) || !holder(b) || !type(c) || d < 1) {
                        return -1;
                    }
                    if (a == b || n.held.get(c)[a] < d) {
                        return -2;
                    }
                    n.held.get(c)[a] -= d;
                    n.held.get(c)[b] += d;
                    return deed(n) ? s.held.get(c)[a] : -9;
                case "gives": {
                    if (!holder(a) || !holder(b)) {
                        return -1;
                    }
                    long any = n.opts[a];
                    for (long[] h : n.held) {
                        any += h[a];
                    }
                    if (a == b || any == 0) {
                        return -2;
                    }
                    for (long[] h : n.held) {
                        h[b] += h[a];
                        h[a] = 0;
                    }
                    n.opts[b] += n.opts[a];
                    n.opts[a] = 0;
                    return deed(n) ? s.stake(b) : -9;
                }
                case "splits":
                    if (a < 2 || a > 10) {
                        return -1;
                    }
                    for (int k = 0; k < n.types(); k++) {
                        for (int h = 0; h < 8; h++) {
                            n.held.get(k)[h] *= a;
                        }
                        n.cls.get(k).price = Math.max(1, n.cls.get(k).price / a);
                        n.cls.get(k).conv = Math.max(1, n.cls.get(k).conv / a);
                    }
                    for (int h = 0; h < 8; h++) {
                        n.opts[h] *= a;
                    }
                    n.pool *= a;
                    return deed(n) ? s.full() : -9;
                case "converts": {
                    if (!holder(a) || !type(b) || b == 0 || c < 1) {
                        return -1;
                    }
                    if (n.held.get(b)[a] < c) {
                        return -2;
                    }
                    n.held.get(b)[a] -= c;
                    n.held.get(0)[a] += s.conv(b, c);
                    long got = s.conv(b, c);
                    deed(n);
                    return got;
                }
                case "term": {
                    int[] most = {3, 50, 1, 1};
                    if (!type(a) || a == 0 || b < 0 || b > 3 || c < 0 || c > most[b]) {
                        return -1;
                    }
                    Cls k = n.cls.get(a);
                    int old = b == 0 ? k.ratchet : b == 1 ? k.pref : b == 2 ? k.part : k.play;
                    if (b == 0) {
                        k.ratchet = c;
                    } else if (b == 1) {
                        k.pref = c;
                    } else if (b == 2) {
                        k.part = c;
                    } else {
                        k.play = c;
                    }
                    deed(n);
                    return old;
                }
                case "round":
                case "thought":
                case "diluted":
                case "threatens":
                case "sweep":
                case "ratchets": {
                    String t = read();
                    int bad = badSign(ROUND, t);
                    return bad >= 0 ? -21 - bad : onRound(op, new Told(t), a);
                }
                default:
                    return asked(op, a, b, c, d);
            }
        }

        long onRound(String op, Told t, int a) {
            switch (op) {
                case "round": {
                    long p = deal(t, t.value, -1);
                    if (p < 0) {
                        return p;
                    }
                    deed(dealt);
                    return tell(p, dealN, dealTurns, dealFull);
                }
                case "thought": {
                    long p = deal(t, t.value, -1);
                    if (p < 0) {
                        return p;
                    }
                    tell(p, dealN, dealTurns, dealFull, dealt.pool);
                    for (int c = 1; c < dealt.types(); c++) {
                        row.add(dealt.cls.get(c).conv);
                    }
                    return p;
                }
                case "diluted": {
                    if (!holder(a)) {
                        return -1;
                    }
                    long p = deal(t, t.value, -1);
                    if (p < 0) {
                        return p;
                    }
                    return tell(of(1000, dealt.stake(a), dealt.full()), of(1000, s.stake(a), s.full()), dealt.stake(a));
                }
                case "threatens": {
                    long[] lost = new long[6];
                    int[] bits = new int[1];
                    played(t, lost, bits);
                    tell(0);
                    for (int c = 1; c < s.types(); c++) {
                        row.add(lost[c]);
                    }
                    return bits[0];
                }
                case "sweep": {
                    if (a < 1 || a > 100000000) {
                        return -1;
                    }
                    int can = 0;
                    tell(0);
                    for (int i = 0; i < 8; i++) {
                        long p = deal(t, t.value + (long) i * a, -1);
                        row.add(p);
                        can += p > 0 ? 1 : 0;
                    }
                    return can;
                }
                default: {
                    tell(0);
                    for (int r = 0; r < 4; r++) {
                        row.add(deal(t, t.value, r));
                    }
                    return row.stream().filter(p -> p > 0).distinct().count();
                }
            }
        }

        long asked(String op, int a, int b, int c, int d) {
            switch (op) {
                case "ratchet": {
                    if (!type(a) || a == 0 || b < 1 || b > 100000000 || c < 1 || c > 100000000 || d < 1 || d > 800000000) {
                        return -1;
                    }
                    Cls k = s.cls.get(a);
                    if (k.ratchet == 0 || k.conv <= b) {
                        return k.conv;
                    }
                    if (k.ratchet == 1) {
                        return b;
                    }
                    long ahead = k.ratchet == 2 ? s.full() : s.allVotes();
                    long v = big(k.conv).multiply(big(ahead)).add(big(10000L * d)).divide(big(ahead + c)).longValueExact();
                    return Math.max(1, Math.min(k.conv, v));
                }
                case "stake":
                    return !holder(a) ? -1 : tell(s.stake(a), of(1000, s.stake(a), s.full()), of(1000, s.votes(a), s.allVotes()));
                case "full":
                    tell(0);
                    for (int k = 0; k < s.types(); k++) {
                        row.add(s.allConv(k));
                    }
                    row.add(s.allOpts());
                    row.add(s.pool);
                    return s.full();
                case "needs": {
                    if (!holder(a) || b < 1 || b > 1000000000) {
                        return -1;
                    }
                    if (s.full() == 0) {
                        return 0;
                    }
                    BigInteger[] qr = big(b).multiply(big(s.stake(a))).divideAndRemainder(big(s.full()));
                    return qr[0].longValueExact() + (qr[1].signum() > 0 ? 1 : 0);
                }
                case "greatest": {
                    List<Integer> order = new ArrayList<>(List.of(0, 1, 2, 3, 4, 5, 6, 7));
                    order.sort((x, y) -> Long.compare(s.stake(y), s.stake(x)));
                    tell(0);
                    for (int h : order) {
                        row.add((long) h);
                    }
                    return order.get(0);
                }
                case "control":
                    return fewest(votes());
                case "block":
                    return !type(a) ? -1 : fewest(s.held.get(a));
                case "leads": {
                    if (!type(a)) {
                        return -1;
                    }
                    int best = 0;
                    for (int h = 1; h < 8; h++) {
                        best = s.held.get(a)[h] > s.held.get(a)[best] ? h : best;
                    }
                    long own = s.held.get(a)[best];
                    return own == 0 ? -2 : tell(best, 1000 * own / s.all(a), 2 * own > s.all(a) ? 1 : 0);
                }
                case "paid": {
                    if (!holder(a)) {
                        return -1;
                    }
                    tell(0);
                    for (int k = 1; k < s.types(); k++) {
                        row.add(s.cls.get(k).gave[a]);
                    }
                    return gave(a);
                }
                case "value": {
                    int k = s.types() - 1;
                    return k == 0 ? -2 : tell(Math.min(2000000000L, mulDiv(s.full(), s.cls.get(k).price, 10000)), k, s.cls.get(k).value + s.cls.get(k).money);
                }
                case "majority": {
                    if (!holder(a)) {
                        return -1;
                    }
                    long own = s.votes(a);
                    long all = s.allVotes();
                    long x = Math.max(0, all - 2 * own - 2);
                    while (2 * (own + x) <= all + x) {
                        x++;
                    }
                    return tell(x, own + x, all + x);
                }
                case "swing": {
                    if (!holder(a)) {
                        return -1;
                    }
                    long[] w = votes();
                    tell(0);
                    for (int h = 0; h < 8; h++) {
                        long n = 0;
                        for (int set = 0; set < 256; set++) {
                            boolean without = (set & 1 << h) == 0 && 2 * sum(w, set) <= s.allVotes();
                            n += without && 2 * sum(w, set | 1 << h) > s.allVotes() ? 1 : 0;
                        }
                        row.add(n);
                    }
                    return row.get(a);
                }
                default:
                    return onSale(op, a, b, c);
            }
        }

        long gave(int h) {
            long v = 0;
            for (int k = 1; k < s.types(); k++) {
                v += s.cls.get(k).gave[h];
            }
            return v;
        }

        boolean sum(int v) {
            return v >= 0 && v <= 1000000000;
        }

        long onSale(String op, int a, int b, int c) {
            switch (op) {
                case "exit":
                    if (!sum(a)) {
                        return -1;
                    }
                    exit(a);
                    tell(0, q);
                    for (int k = 1; k < s.types(); k++) {
                        row.add(typeGets(k));
                    }
                    return typeGets(0);
                case "gets":
                    if (!holder(a) || !sum(b)) {
                        return -1;
                    }
                    exit(b);
                    return tell(byPreference(a) + byShare(a), byPreference(a), byShare(a));
                case "over": {
                    if (!sum(a)) {
                        return -1;
                    }
                    long over = a;
                    tell(0);
                    for (int h = 0; h < 8; h++) {
                        row.add(gets(h, a));
                        over -= gets(h, a);
                    }
                    return over;
                }
                case "worth":
                    if (!type(a) || !sum(b)) {
                        return -1;
                    }
                    if (s.all(a) == 0) {
                        return -2;
                    }
                    exit(b);
                    return Math.min(2000000000L, mulDiv(typeGets(a), 10000, s.all(a)));
                case "curve": {
                    if (!holder(a) || b < 1 || b > 125000000) {
                        return -1;
                    }
                    tell(0);
                    long v = 0;
                    for (int i = 1; i <= 8; i++) {
                        row.add(gets(a, (long) i * b));
                        v += gets(a, (long) i * b);
                    }
                    return v;
                }
                case "stage": {
                    if (!sum(a)) {
                        return -1;
                    }
                    exit(a);
                    int bits = 0;
                    long lack = 0;
                    for (int k = 1; k < s.types(); k++) {
                        if ((q & 1 << k) == 0) {
                            bits |= first[k] == s.preference(k) ? 1 << k : 0;
                            lack += s.preference(k) - first[k];
                        }
                    }
                    return tell(bits, Math.min(2000000000L, lack));
                }
                case "reaches":
                    if (!holder(a) || b < 0 || c < 1 || c > 1000000) {
                        return -1;
                    }
                    for (int i = 0; i <= 100; i++) {
                        if (gets(a, (long) i * c) >= b) {
                            return (long) i * c;
                        }
                    }
                    return -2;
                case "multiple":
                    if (!holder(a) || !sum(b)) {
                        return -1;
                    }
                    return gave(a) == 0 ? -2 : Math.min(2000000000L, mulDiv(100, gets(a, b), gave(a)));
                case "preference": {
                    if (!type(a) || a == 0) {
                        return -1;
                    }
                    long v = 0;
                    for (int k = s.types() - 1; k >= a; k--) {
                        v += s.preference(k);
                    }
                    return tell(Math.min(2000000000L, s.preference(a)), Math.min(2000000000L, v));
                }
                case "flips":
                    if (!type(a) || a == 0 || b < 1 || b > 1000000) {
                        return -1;
                    }
                    for (int i = 0; i <= 100; i++) {
                        exit((long) i * b);
                        if ((q & 1 << a) != 0) {
                            return (long) i * b;
                        }
                    }
                    return -2;
                case "keeps":
                    kept = s.copy();
                    return s.full();
                case "back":
                    if (kept == null) {
                        return -2;
                    }
                    deed(kept.copy());
                    return s.full();
                case "undo":
                    if (past.isEmpty()) {
                        return -2;
                    }
                    s = past.remove(past.size() - 1);
                    return past.size();
                default:
                    throw new IllegalStateException(op);
            }
        }

        long count(int what) {
            int bits = 0;
            for (int i = 0; i < 8; i++) {
                boolean in = what == 7 && s.stake(i) > 0 || what == 8 && s.opts[i] > 0
                        || what == 9 && i > 0 && i < s.types() && s.cls.get(i).ratchet > 0
                        || what == 10 && i > 0 && i < s.types() && s.cls.get(i).play > 0;
                bits |= in ? 1 << i : 0;
            }
            long[] answers = {s.types(), s.pool, s.allOpts(), past.size(), deeds, row.size(), text.length(), bits, bits, bits, bits};
            return what < 0 || what > 10 ? -1 : answers[what];
        }

        long typeFact(int t, int what) {
            if (!type(t) || what < 0 || what > 7 || t == 0 && what > 0 && what < 7) {
                return -1;
            }
            int bits = 0;
            for (int h = 0; h < 8; h++) {
                bits |= s.held.get(t)[h] > 0 ? 1 << h : 0;
            }
            Cls k = s.cls.get(t);
            return new long[] {s.all(t), k.price, k.conv, k.ratchet, k.pref, k.part, k.play, bits}[what];
        }

        long told(int t, int what) {
            if (!type(t) || t == 0 || what < 0 || what > 4) {
                return -1;
            }
            Cls k = s.cls.get(t);
            return new long[] {k.value, k.money, k.issued, k.turns, k.full}[what];
        }
    }

    // ---- the class, by names

    private static long call(RoundHouse x, String op, int a, int b, int c, int d) {
        switch (op) {
            case "sign": return x.sign(a);
            case "end": return x.end(a) ? 1 : 0;
            case "founds": return x.founds();
            case "issues": return x.issues(a, b);
            case "cancels": return x.cancels(a, b, c);
            case "pool": return x.pool(a);
            case "grant": return x.grant(a, b);
            case "exercise": return x.exercise(a, b);
            case "lapses": return x.lapses(a, b);
            case "sells": return x.sells(a, b, c, d);
            case "gives": return x.gives(a, b);
            case "splits": return x.splits(a);
            case "converts": return x.converts(a, b, c);
            case "term": return x.term(a, b, c);
            case "round": return x.round();
            case "thought": return x.thought();
            case "diluted": return x.diluted(a);
            case "threatens": return x.threatens();
            case "sweep": return x.sweep(a);
            case "ratchets": return x.ratchets();
            case "ratchet": return x.ratchet(a, b, c, d);
            case "stake": return x.stake(a);
            case "full": return x.full();
            case "needs": return x.needs(a, b);
            case "greatest": return x.greatest();
            case "control": return x.control();
            case "leads": return x.leads(a);
            case "block": return x.block(a);
            case "paid": return x.paid(a);
            case "value": return x.value();
            case "majority": return x.majority(a);
            case "swing": return x.swing(a);
            case "exit": return x.exit(a);
            case "gets": return x.gets(a, b);
            case "over": return x.over(a);
            case "worth": return x.worth(a, b);
            case "curve": return x.curve(a, b);
            case "stage": return x.stage(a);
            case "reaches": return x.reaches(a, b, c);
            case "multiple": return x.multiple(a, b);
            case "preference": return x.preference(a);
            case "flips": return x.flips(a, b);
            case "keeps": return x.keeps();
            case "back": return x.back();
            case "undo": return x.undo();
            default: throw new IllegalStateException(op);
        }
    }

    private static final String[] OPS = {"issues", "cancels", "pool", "grant", "exercise", "lapses", "sells", "gives", "splits",
        "converts", "term", "term", "ratchet", "stake", "full", "needs", "greatest", "control", "leads", "block", "paid", "value",
        "majority", "swing", "exit", "gets", "over", "worth", "curve", "stage", "reaches", "multiple", "preference", "flips",
        "keeps", "back", "undo", "undo"};
    private static final String[] READERS = {"round", "round", "round", "round", "thought", "diluted", "threatens", "sweep", "ratchets"};

    private static final class Run {
        final Random random;
        final long scale;
        final Model model = new Model();
        final RoundHouse house = new RoundHouse();
        final StringBuilder log = new StringBuilder();

        Run(int seed) {
            random = new Random(seed);
            scale = new long[] {20, 1000, 100000, 10000000, 300000000}[random.nextInt(5)];
        }

        int holder() {
            return random.nextInt(20) == 0 ? random.nextInt(4) * 3 - 1 : random.nextInt(8);
        }

        int type() {
            return random.nextInt(15) == 0 ? random.nextInt(9) - 1 : random.nextInt(model.s.types());
        }

        int amount(long most) {
            switch (random.nextInt(12)) {
                case 0:
                    return random.nextInt(3) - 1;
                case 1:
                    return random.nextInt();
                case 2:
                    return (int) most;
                case 3:
                    return (int) most + 1;
                default:
                    return (int) (random.nextDouble() * random.nextDouble() * (most + 1));
            }
        }

        int money() {
            return amount(new long[] {scale, scale * 3, 1000000000L, 1000000}[random.nextInt(4)]);
        }

        String number(long most, int least) {
            long n = Math.max(least, (long) (random.nextDouble() * random.nextDouble() * most));
            return String.valueOf(Math.min(n, 999999999));
        }

        String roundText() {
            StringBuilder t = new StringBuilder("pre ");
            long size = Math.max(1, model.s.full());
            int last = model.s.types() - 1;
            double price = last == 0 ? 1 + random.nextInt(5) : model.s.cls.get(last).price / 10000.0 * (random.nextDouble() * 2);
            long value = (long) Math.max(1, Math.min(999999999, random.nextInt(6) == 0 ? scale * random.nextDouble() : size * price));
            t.append(value);
            t.append(random.nextInt(3) == 0 ? " pool " + random.nextInt(random.nextInt(4) == 0 ? 501 : 250) : "");
            t.append(random.nextInt(3) == 0 ? " late" : "");
            t.append(new String[] {"", " full", " broad", " narrow"}[random.nextInt(4)]);
            t.append(random.nextInt(3) == 0 ? " pref " + random.nextInt(51) : "");
            t.append(random.nextInt(4) == 0 ? " part" : "");
            t.append(random.nextInt(3) == 0 ? " play" : "");
            t.append(":");
            int many = 0;
            int chance = 1 + random.nextInt(6);
            for (int h = 0; h < 8; h++) {
                if (random.nextInt(chance) == 0 || h == 7 && many == 0) {
                    t.append(many++ == 0 ? "" : ",").append(h).append("=").append(number(Math.min(100000000, value), 1));
                }
            }
            return t.toString();
        }

        String numbersText() {
            StringBuilder t = new StringBuilder();
            int many = random.nextInt(9);
            for (int h = 0; h < many; h++) {
                t.append(h == 0 ? "" : ",").append(number(scale, 0));
            }
            return t.toString();
        }

        String spoilt(String text) {
            String signs = "0123456789 :=,prefoltayudbnwx" + (char) 0 + (char) 255;
            int p = random.nextInt(text.length() + 1);
            char c = signs.charAt(random.nextInt(signs.length()));
            switch (random.nextInt(4)) {
                case 0:
                    return text.substring(0, p);
                case 1:
                    return text.substring(0, p) + c + text.substring(p);
                case 2:
                    return p == text.length() ? text + c : text.substring(0, p) + c + text.substring(p + 1);
                default:
                    return p == text.length() ? text : text.substring(0, p) + text.substring(p + 1);
            }
        }

        void put(String text) {
            for (int i = 0; i < text.length(); i += 4) {
                int v = 0;
                for (int k = i; k < i + 4; k++) {
                    v = v << 8 | (k < text.length() ? text.charAt(k) : 0);
                }
                both("sign", v, 0, 0, 0);
            }
            both("end", text.length(), 0, 0, 0);
        }

        void reads(String op, String text) {
            both("end", 0, 0, 0, 0);
            put(random.nextInt(5) == 0 ? spoilt(text) : text);
            log.append(" \"").append(text).append('"');
            both(op, op.equals("sweep") ? money() : holder(), 0, 0, 0);
        }

        void step() {
            int kind = random.nextInt(20);
            if (kind == 0 && random.nextInt(3) == 0) {
                reads("founds", numbersText());
            } else if (kind < 6) {
                reads(READERS[random.nextInt(READERS.length)], roundText());
            } else if (kind == 6 && random.nextInt(10) == 0) {
                both("sign", random.nextInt(), 0, 0, 0);
                both("end", random.nextInt(8) - 1, 0, 0, 0);
            } else {
                plain(OPS[random.nextInt(OPS.length)]);
            }
        }

        void plain(String op) {
            int h = holder();
            int t = type();
            boolean known = model.holder(h) && model.type(t);
            long own = known ? model.s.held.get(t)[h] : 5;
            long opts = model.holder(h) ? model.s.opts[h] : 5;
            switch (op) {
                case "issues": both(op, h, amount(scale), 0, 0); break;
                case "pool": both(op, amount(scale), 0, 0, 0); break;
                case "grant": both(op, h, amount(model.s.pool), 0, 0); break;
                case "exercise":
                case "lapses": both(op, h, amount(opts), 0, 0); break;
                case "cancels":
                case "converts": both(op, h, t, amount(own), 0); break;
                case "sells": both(op, h, holder(), t, amount(own)); break;
                case "gives": both(op, h, holder(), 0, 0); break;
                case "splits": both(op, random.nextInt(3) == 0 ? random.nextInt(13) : 2, 0, 0, 0); break;
                case "term": both(op, t, random.nextInt(10) == 0 ? random.nextInt(7) - 1 : random.nextInt(4), random.nextInt(random.nextInt(4) == 0 ? 53 : 4) - (random.nextInt(20) == 0 ? 1 : 0), 0); break;
                case "ratchet": both(op, t, amount(Math.min(99999999, known && t > 0 ? model.s.cls.get(t).conv : 9)), amount(Math.min(100000000, scale)), money()); break;
                case "leads":
                case "block":
                case "preference": both(op, t, 0, 0, 0); break;
                case "exit":
                case "over":
                case "stage": both(op, money(), 0, 0, 0); break;
                case "worth": both(op, t, money(), 0, 0); break;
                case "flips": both(op, t, Math.floorMod(money(), 1000002), 0, 0); break;
                case "reaches": both(op, h, money(), Math.floorMod(money(), 1000002), 0); break;
                case "curve": both(op, h, money() / 8, 0, 0); break;
                default: both(op, h, money(), 0, 0); break;
            }
        }

        void both(String op, int a, int b, int c, int d) {
            long want = model.call(op, a, b, c, d);
            long got = call(house, op, a, b, c, d);
            log.append('\n').append(op).append('(').append(a).append(',').append(b).append(',').append(c).append(',').append(d).append(") = ").append(want);
            if (want >= 0) {
                for (int i = 0; i < OPS.length; i++) {
                    if (OPS[i].equals(op)) {
                        good[i]++;
                        break;
                    }
                }
            }
            due("", got, want);
        }

        void due(String what, long got, long want) {
            if (got != want && wrong++ < 5) {
                System.out.println("run" + log + "\n  " + what + " answered " + got + ", due is " + want);
            }
        }

        void compare() {
            for (int what = -1; what <= 11; what++) {
                due("count " + what, house.count(what), model.count(what));
            }
            for (int i = 0; i < model.row.size(); i++) {
                due("row " + i, rowOf(i), model.row.get(i));
            }
            due("row beyond", rowOf(model.row.size()), Long.MIN_VALUE);
            for (int t = -1; t <= model.s.types(); t++) {
                for (int h = -1; h <= 8; h++) {
                    boolean known = model.holder(h) && model.type(t);
                    due("shares " + h + " " + t, house.shares(h, t), known ? model.s.held.get(t)[h] : -1);
                }
                for (int what = -1; what <= 8; what++) {
                    due("type " + t + " " + what, house.type(t, what), model.typeFact(t, what));
                    due("told " + t + " " + what, house.told(t, what), model.told(t, what));
                }
            }
            for (int h = -1; h <= 8; h++) {
                due("options " + h, house.options(h), model.holder(h) ? model.s.opts[h] : -1);
            }
        }

        long rowOf(int i) {
            try {
                return house.row(i);
            } catch (NoSuchElementException e) {
                return Long.MIN_VALUE;
            }
        }
    }

    public static void main(String[] args) {
        int runs = args.length > 0 ? Integer.parseInt(args[0]) : RUNS;
        int first = args.length > 1 ? Integer.parseInt(args[1]) : 0;
        int rounds = 0;
        int classes = 0;
        for (int seed = first; seed < first + runs && wrong == 0; seed++) {
            Run run = new Run(seed);
            run.reads("founds", run.numbersText());
            for (int i = 0; i < CALLS && wrong == 0; i++) {
                run.step();
                run.compare();
            }
            rounds += run.model.s.types() - 1;
            classes = Math.max(classes, run.model.s.types());
        }
        if (args.length > 0) {
            for (int i = 0; i < OPS.length; i++) {
                System.out.println(OPS[i] + " " + good[i]);
            }
            System.out.println("classes at the end " + rounds + ", most " + classes);
        }
        System.out.println(wrong == 0 ? "the class and the model agree" : "the class and the model do not agree");
        if (wrong != 0) {
            System.exit(1);
        }
    }
}
