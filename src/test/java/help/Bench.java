import java.util.ArrayList;
import java.util.List;
import java.util.NoSuchElementException;
import java.util.TreeSet;

/** What the tests of the boundaries need: houses to begin with, and what a refused call must leave alone. */
final class Bench {
    static final int MIN = Integer.MIN_VALUE;
    static final int MAX = Integer.MAX_VALUE;
    static final int BILLION = 1000000000;
    static final int[] BAD_HOLDERS = {-1, 8, MIN, MAX};
    /** Numbers that are no class of busy(), which has 0, 1 and 2. */
    static final int[] BAD_TYPES = {-1, 3, 5, 6, MIN, MAX};
    static final int[] BELOW_ONE = {0, -1, MIN};

    private static final int SHOWN = 60;
    private static final TreeSet<Integer> seen = new TreeSet<>();
    private static int wrong = 0;
    private static int promise = 0;
    private static String sentence = "";

    interface Maker {
        RoundHouse make();
    }

    interface Call {
        long on(RoundHouse x);
    }

    private Bench() {
    }

    /** The promise and the sentence of it that the next checks are of. */
    static void promise(int number, String words) {
        promise = number;
        sentence = words;
        seen.add(number);
    }

    static void due(String call, long got, long want) {
        if (got != want && wrong++ < SHOWN) {
            System.out.println("promise " + promise + " (" + sentence + "): " + call + " answered " + got + ", due is " + want);
        }
    }

    static void due(String call, boolean got, boolean want) {
        due(call, got ? 1 : 0, want ? 1 : 0);
    }

    /** Ends the test; each promise from one to another must have been looked at. */
    static void ends(int first, int last) {
        for (int n = first; n <= last; n++) {
            if (!seen.contains(n)) {
                wrong++;
                System.out.println("promise " + n + " has no test here");
            }
        }
        System.out.println(wrong == 0 ? "the boundaries hold" : wrong + " answers are not as due");
        if (wrong != 0) {
            System.exit(1);
        }
    }

    // ---- houses

    /** Puts a text, whatever stood ahead of it. */
    static RoundHouse text(RoundHouse x, String text) {
        x.end(0);
        int n = text.length();
        for (int i = 0; i < n; i += 4) {
            int v = 0;
            for (int k = i; k < i + 4; k++) {
                v = v << 8 | (k < n ? text.charAt(k) : 0);
            }
            x.sign(v);
        }
        x.end(n);
        return x;
    }

    static RoundHouse founded(String numbers) {
        RoundHouse x = new RoundHouse();
        text(x, numbers).founds();
        return x;
    }

    static int round(RoundHouse x, String text) {
        return text(x, text).round();
    }

    /**
     * Common 600, 400 of holders 0, 1; class 1, full: 100, 50 of 1, 2; class 2, pref 20, part, play: 250 of 4;
     * 40 options of 3, the pool 60: FULL is 1500. 1250 are kept, the row is 333, 357, the text has 4 signs.
     */
    static RoundHouse busy() {
        RoundHouse x = founded("600,400");
        x.pool(100);
        x.grant(3, 40);
        round(x, "pre 1100 full:1=100,2=50");
        x.keeps();
        round(x, "pre 1250 pref 20 part play:4=250");
        x.stake(1);
        text(x, "ab,1");
        return x;
    }

    /** FULL is all that it may be. */
    static RoundHouse brim() {
        return founded("999999999,1");
    }

    /** Five classes: 10 shares each of holder 1, for 10000; common 1000 of holder 0. */
    static RoundHouse five() {
        RoundHouse x = founded("1000");
        for (int i = 0; i < 5; i++) {
            round(x, "pre " + (1000 + 10 * i) + ":1=10");
        }
        return x;
    }

    /** five() with 7 options and one share of the last class of holder 0, 100 of its common of 2, the pool 93: FULL is 1150. */
    static RoundHouse fiveAndPool() {
        RoundHouse x = five();
        x.pool(100);
        x.grant(0, 7);
        x.sells(1, 0, 5, 1);
        x.sells(0, 2, 0, 100);
        return x;
    }

    /**
     * Common 1000, 1000 of holders 0, 2; class 1, PRICE 10000, CONV 6499: 51, 50 of holders 1, 3 are 78, 76,
     * but 101 of one holder would be 155; class 2: 1 of holder 4. FULL is 2155.
     */
    static RoundHouse halves() {
        RoundHouse x = founded("1000,0,1000");
        round(x, "pre 2000 full:1=101");
        x.sells(1, 3, 1, 50);
        round(x, "pre 1400 late:4=1");
        return x;
    }

    // ---- what must hold of them

    static void row(RoundHouse x, String call, long... want) {
        due(call + ": numbers of the row", x.count(5), want.length);
        for (int i = 0; i < want.length; i++) {
            due(call + ": row(" + i + ")", rowOf(x, i), want[i]);
        }
    }

    /** Number i of the row, or the least long where there is none. */
    static long rowOf(RoundHouse x, int i) {
        try {
            return x.row(i);
        } catch (NoSuchElementException e) {
            return Long.MIN_VALUE;
        }
    }

    static List<Long> numbers(RoundHouse x) {
        List<Long> all = new ArrayList<>();
        int many = x.count(5);
        for (int i = 0; i < many; i++) {
            all.add(rowOf(x, i));
        }
        return all;
    }

    /** All that is so, but for deeds, the row and the text; the row is another one then. */
    static List<Long> facts(RoundHouse x) {
        List<Long> all = new ArrayList<>();
        for (int what : new int[] {0, 1, 2, 7, 8, 9, 10}) {
            all.add((long) x.count(what));
        }
        for (int t = 0; t < x.count(0); t++) {
            for (int h = 0; h < 8; h++) {
                all.add((long) x.shares(h, t));
            }
            for (int what = 0; what <= 7; what++) {
                all.add((long) x.type(t, what));
            }
            for (int what = 0; what <= 4; what++) {
                all.add((long) x.told(t, what));
            }
        }
        for (int h = 0; h < 8; h++) {
            all.add((long) x.options(h));
            all.add((long) x.paid(h));
            all.addAll(numbers(x));
        }
        return all;
    }

    static void sameFacts(String call, RoundHouse x, RoundHouse y) {
        hasFacts(call, x, facts(y));
    }

    static void hasFacts(String call, RoundHouse x, List<Long> want) {
        due(call + ": the house is the same", facts(x).equals(want), true);
    }

    /** Deeds, what is kept and what can be undone; the houses are used up then. */
    private static void samePast(String call, RoundHouse x, RoundHouse y) {
        due(call + ": deeds", x.count(4), y.count(4));
        due(call + ": deeds that can be undone", x.count(3), y.count(3));
        due(call + ": what is kept", x.back(), y.back());
        for (int i = 0; i < 9; i++) {
            due(call + ": undo " + i, x.undo(), y.undo());
            due(call + ": full behind undo " + i, x.full(), y.full());
        }
    }

    /** A call that leaves all as it was, but for the row and the text, which are looked at apart. */
    private static void leaves(String call, Maker maker, Call done, long want, boolean rowStays, int signs) {
        RoundHouse x = maker.make();
        RoundHouse y = maker.make();
        due(call, done.on(x), want);
        due(call + ": signs of the text", x.count(6), signs < 0 ? y.count(6) : signs);
        if (rowStays) {
            due(call + ": the row stays", numbers(x).equals(numbers(y)), true);
        }
        sameFacts(call, x, y);
        samePast(call, x, y);
    }

    /** A refused call that reads no text. */
    static void refused(String call, Maker maker, Call done, long want) {
        leaves(call, maker, done, want, true, -1);
    }

    /** A refused call that reads the text, and so empties it. */
    static void refusedText(String call, Maker maker, String words, Call done, long want) {
        leaves(call + " of \"" + words + "\"", () -> text(maker.make(), words), done, want, true, 0);
    }

    /** A call that asks and tells a row. */
    static void asks(String call, Maker maker, Call done, long want) {
        leaves(call, maker, done, want, false, -1);
    }

    /** A call that asks and leaves the row alone. */
    static void asksAlone(String call, Maker maker, Call done, long want) {
        leaves(call, maker, done, want, true, -1);
    }

    /** A call that asks by the text, and so empties it. */
    static void asksText(String call, Maker maker, String words, Call done, long want) {
        leaves(call + " of \"" + words + "\"", () -> text(maker.make(), words), done, want, false, 0);
    }
}
