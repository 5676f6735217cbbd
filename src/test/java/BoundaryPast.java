import java.util.LinkedHashMap;
import java.util.List;
import java.util.Map;

/** The boundaries of promises 48 to 52, sentence by sentence: deeds taken back, what is counted, the row. */
public final class BoundaryPast {
    private static final int MIN = Bench.MIN;
    private static final int MAX = Bench.MAX;
    private static final int BILLION = Bench.BILLION;

    public static void main(String[] args) {
        keeps();
        back();
        deedsOfAllKinds();
        refusedDeeds();
        deedsBehindOthers();
        eight();
        undoAndKept();
        counts();
        bits();
        rows();
        rowOfEachCall();
        Bench.ends(48, 52);
    }

    private static void due(String call, long got, long want) {
        Bench.due(call, got, want);
    }

    private static void keeps() {
        Bench.promise(48, "all that is so is kept, DEEDS aside");
        RoundHouse x = Bench.busy();
        due("keeps", x.keeps(), 1500);
        due("no deed", x.count(4), 5);
        due("no deed", x.count(3), 5);
        due("the text stays", x.count(6), 4);
        Bench.row(x, "the row stays", 333, 357);
        Bench.sameFacts("keeps", x, Bench.busy());
        Bench.promise(48, "in place of what was");
        x.pool(0);
        x.keeps();
        x.pool(7);
        due("the later one", x.back(), 1440);
        due("pool", x.count(1), 0);
        Bench.promise(48, "nobody has anything");
        x = new RoundHouse();
        due("keeps", x.keeps(), 0);
        x.issues(0, 5);
        due("back", x.back(), 0);
        due("shares", x.shares(0, 0), 0);
        due("all that may be", Bench.brim().keeps(), BILLION);
    }

    private static void back() {
        Bench.promise(49, "nothing is kept");
        Bench.refused("back", RoundHouse::new, RoundHouse::back, -2);
        Bench.refused("back", Bench::five, RoundHouse::back, -2);
        Bench.promise(49, "all that was kept is so again, as a DEED");
        RoundHouse x = Bench.busy();
        x.keeps();
        x.splits(2);
        x.term(1, 0, 3);
        x.term(1, 1, 0);
        x.gives(1, 7);
        x.stake(7);
        List<Long> row = Bench.numbers(x);
        due("back", x.back(), 1500);
        due("a deed", x.count(4), 10);
        due("can be undone", x.count(3), 8);
        due("the text stays", x.count(6), 4);
        Bench.due("the row stays", Bench.numbers(x).equals(row), true);
        Bench.sameFacts("back", x, Bench.busy());
        due("again", x.back(), 1500);
        due("a deed", x.count(4), 11);
        due("undo", x.undo(), 7);
        due("undo", x.undo(), 6);
        due("what was ahead of it", x.shares(7, 0), 800);
        due("and again", x.back(), 1500);
        x = Bench.busy();
        x.keeps();
        x.end(0);
        x.founds();
        due("of classes that were", x.back(), 1500);
        Bench.sameFacts("back", x, Bench.busy());
        x = Bench.brim();
        x.keeps();
        x.cancels(0, 0, 5);
        due("all that may be", x.back(), BILLION);
    }

    private static Map<String, Bench.Call> deeds() {
        Map<String, Bench.Call> deeds = new LinkedHashMap<>();
        deeds.put("founds", x -> Bench.text(x, "9,8").founds());
        deeds.put("issues", x -> x.issues(7, 5));
        deeds.put("cancels", x -> x.cancels(4, 2, 250));
        deeds.put("pool", x -> x.pool(0));
        deeds.put("grant", x -> x.grant(7, 60));
        deeds.put("exercise", x -> x.exercise(3, 40));
        deeds.put("lapses", x -> x.lapses(3, 40));
        deeds.put("round", x -> Bench.round(x, "pre 700 pool 100 narrow play:0=30,7=9"));
        deeds.put("sells", x -> x.sells(2, 7, 1, 50));
        deeds.put("gives", x -> x.gives(1, 4));
        deeds.put("splits", x -> x.splits(3));
        deeds.put("converts", x -> x.converts(1, 1, 100));
        deeds.put("term", x -> x.term(2, 1, 50));
        deeds.put("back", RoundHouse::back);
        return deeds;
    }

    private static void deedsOfAllKinds() {
        Bench.promise(50, "the latest DEED is undone");
        for (Map.Entry<String, Bench.Call> deed : deeds().entrySet()) {
            String name = deed.getKey();
            RoundHouse x = Bench.busy();
            Bench.due(name + " is not refused", deed.getValue().on(x) >= 0, true);
            due(name + ": deeds", x.count(4), 6);
            due(name + ": can be undone", x.count(3), 6);
            Bench.due(name + " changes something", Bench.facts(x).equals(Bench.facts(Bench.busy())), false);
            due(name + ": undo", x.undo(), 5);
            due(name + ": deeds, those that were undone as well", x.count(4), 6);
            Bench.sameFacts(name + ", undone", x, Bench.busy());
            due(name + ": what is kept stays", x.back(), 1250);
        }
        Bench.promise(50, "a DEED that changes nothing is one, too");
        RoundHouse x = Bench.busy();
        x.pool(60);
        x.term(1, 0, 1);
        due("deeds", x.count(4), 7);
        due("undo", x.undo(), 6);
        x = new RoundHouse();
        x.founds();
        x.splits(2);
        due("deeds", x.count(4), 2);
        due("undo", x.undo(), 1);
        due("undo", x.undo(), 0);
    }

    private static void refusedDeeds() {
        Bench.promise(50, "DEEDS, not refused");
        RoundHouse x = Bench.five();
        int deeds = x.count(4);
        Bench.text(x, "x").founds();
        Bench.text(x, "999999999,2").founds();
        x.issues(0, BILLION);
        x.cancels(0, 0, 1001);
        x.pool(-1);
        x.grant(0, 1);
        x.exercise(0, 1);
        x.lapses(0, 1);
        Bench.round(x, "pre 5:0=1");
        x.sells(0, 0, 0, 1);
        x.gives(7, 0);
        x.splits(1);
        x.converts(0, 1, 1);
        x.term(0, 0, 0);
        x.back();
        due("deeds", x.count(4), deeds);
        due("can be undone", x.count(3), deeds);
        Bench.sameFacts("refused", x, Bench.five());
        due("undo", x.undo(), deeds - 1);
        due("the latest that was none of these", x.count(0), 5);
    }

    private static void deedsBehindOthers() {
        for (Map.Entry<String, Bench.Call> deed : deeds().entrySet()) {
            String name = deed.getKey();
            RoundHouse y = Bench.busy();
            long want = deed.getValue().on(y);
            List<Long> facts = Bench.facts(y);
            Bench.promise(50, "a DEED behind one that was refused");
            RoundHouse x = Bench.busy();
            due("refused", x.issues(0, BILLION), -9);
            due(name + " behind issues, refused", deed.getValue().on(x), want);
            Bench.hasFacts(name + " behind issues, refused", x, facts);
            Bench.promise(50, "a DEED behind one that was undone");
            x = Bench.busy();
            x.splits(2);
            x.undo();
            due(name + " behind splits, undone", deed.getValue().on(x), want);
            Bench.hasFacts(name + " behind splits, undone", x, facts);
            Bench.promise(50, "a DEED behind a ROUND in thought");
            x = Bench.busy();
            Bench.text(x, "pre 500 pool 200:0=500").thought();
            due(name + " behind a thought", deed.getValue().on(x), want);
            Bench.hasFacts(name + " behind a thought", x, facts);
        }
    }

    /** A house with a pool of n, by n deeds. */
    private static RoundHouse pooled(int n) {
        RoundHouse x = new RoundHouse();
        for (int i = 1; i <= n; i++) {
            x.pool(i);
        }
        return x;
    }

    private static void eight() {
        Bench.promise(50, "the latest 8 can be undone; none can");
        for (int n : new int[] {0, 1, 7, 8, 9, 15, 16, 17, 30}) {
            RoundHouse x = pooled(n);
            int can = Math.min(n, 8);
            due("can be undone of " + n, x.count(3), can);
            due("deeds", x.count(4), n);
            for (int i = 1; i <= can; i++) {
                due("undo", x.undo(), can - i);
                due("can be undone", x.count(3), can - i);
                due("pool", x.count(1), n - i);
            }
            due("none can", x.undo(), -2);
            due("pool", x.count(1), n - can);
            due("deeds", x.count(4), n);
        }
        Bench.refused("undo", RoundHouse::new, RoundHouse::undo, -2);
        Bench.promise(50, "deeds behind an undone one");
        RoundHouse x = pooled(10);
        for (int i = 0; i < 5; i++) {
            x.undo();
        }
        due("pool", x.count(1), 5);
        x.pool(50);
        x.pool(51);
        due("can be undone", x.count(3), 5);
        due("deeds", x.count(4), 12);
        due("undo", x.undo(), 4);
        due("pool", x.count(1), 50);
        due("undo", x.undo(), 3);
        due("pool", x.count(1), 5);
        for (int i = 1; i <= 9; i++) {
            x.pool(100 + i);
        }
        due("eight again", x.count(3), 8);
        for (int i = 8; i >= 1; i--) {
            due("undo", x.undo(), i - 1);
            due("pool", x.count(1), 100 + i);
        }
        due("none can", x.undo(), -2);
        due("deeds", x.count(4), 21);
    }

    private static void undoAndKept() {
        Bench.promise(50, "undo is no DEED, and leaves THE TEXT, the ROW and what is kept alone");
        RoundHouse x = Bench.busy();
        x.keeps();
        due("undo", x.undo(), 4);
        due("deeds", x.count(4), 5);
        due("the text stays", x.count(6), 4);
        Bench.row(x, "the row stays", 333, 357);
        due("kept", x.back(), 1500);
        Bench.sameFacts("kept", x, Bench.busy());
        due("undo", x.undo(), 4);
        due("undo", x.undo(), 3);
        due("classes", x.count(0), 1);
    }

    private static void counts() {
        Bench.promise(51, "what 0 .. 10; NONE for another what");
        long[] want = {3, 60, 40, 5, 5, 2, 4, 31, 8, 2, 4};
        for (int what = 0; what <= 10; what++) {
            int w = what;
            Bench.asksAlone("count(" + what + ")", Bench::busy, x -> x.count(w), want[what]);
        }
        for (int what : new int[] {-1, 11, 12, MIN, MAX}) {
            Bench.refused("count(" + what + ")", Bench::busy, x -> x.count(what), -1);
        }
        Bench.promise(51, "CLASSES, COMMON, too");
        due("none but common", new RoundHouse().count(0), 1);
        due("five", Bench.five().count(0), 6);
        Bench.promise(51, "the POOL, all OPTIONS");
        RoundHouse x = new RoundHouse();
        x.pool(BILLION);
        due("pool", x.count(1), BILLION);
        for (int h = 0; h < 8; h++) {
            x.grant(h, 125000000);
        }
        due("pool", x.count(1), 0);
        due("options", x.count(2), BILLION);
        Bench.promise(51, "signs of THE TEXT");
        x = new RoundHouse();
        for (int i = 1; i <= 51; i++) {
            x.sign(i);
        }
        due("signs", x.count(6), 200);
    }

    private static void bits() {
        Bench.promise(51, "HOLDERS with a STAKE above 0, with OPTIONS, CLASSES with a RATCHET, with PLAY, as bits");
        RoundHouse x = Bench.founded("1,0,0,0,0,0,0,1");
        due("stakes", x.count(7), 129);
        due("options", x.count(8), 0);
        x.pool(2);
        due("the pool is nobody's", x.count(7), 129);
        x.grant(7, 1);
        x.grant(6, 1);
        due("stakes", x.count(7), 193);
        due("options", x.count(8), 192);
        x.exercise(6, 1);
        due("options", x.count(8), 128);
        x.cancels(6, 0, 1);
        due("stakes", x.count(7), 129);
        x.lapses(7, 1);
        due("options", x.count(8), 0);
        x.grant(0, 1);
        due("options", x.count(8), 1);
        x = new RoundHouse();
        x.pool(1);
        x.grant(0, 1);
        due("options alone are a stake", x.count(7), 1);
        x = Bench.founded("0,5");
        Bench.round(x, "pre 5:0=5");
        due("stakes", x.count(7), 3);
        x = Bench.founded("1000");
        for (int i = 0; i < 5; i++) {
            Bench.round(x, "pre " + (1000 + 10 * i) + ":7=10");
        }
        due("no options", x.count(2), 0);
        due("no options", x.count(8), 0);
        due("stakes", x.count(7), 129);
        x = Bench.five();
        due("ratchets", x.count(9), 0);
        due("play", x.count(10), 0);
        for (int t = 1; t <= 5; t++) {
            for (int kind = 1; kind <= 3; kind++) {
                x.term(t, 0, kind);
                due("ratchets", x.count(9), 1 << t);
            }
            x.term(t, 0, 0);
            x.term(t, 3, 1);
            due("play", x.count(10), 1 << t);
            due("ratchets", x.count(9), 0);
            x.term(t, 3, 0);
        }
        for (int t = 1; t <= 5; t++) {
            x.term(t, 0, 1);
            x.term(t, 3, 1);
        }
        due("ratchets", x.count(9), 62);
        due("play", x.count(10), 62);
    }

    private static void none(RoundHouse x, int i) {
        due("row(" + i + ") of " + x.count(5), Bench.rowOf(x, i), Long.MIN_VALUE);
    }

    private static void rows() {
        Bench.promise(52, "NoSuchElementException: none such");
        RoundHouse x = new RoundHouse();
        for (int i : new int[] {0, -1, 1, MIN, MAX}) {
            none(x, i);
        }
        x = Bench.busy();
        due("the first", x.row(0), 333);
        due("the last", x.row(1), 357);
        for (int i : new int[] {2, 3, 11, 12, 13, -1, MIN, MAX}) {
            none(x, i);
            due("the numbers stay", x.count(5), 2);
        }
        Bench.promise(52, "a shorter ROW comes in place of a longer one");
        x.greatest();
        due("the last of eight", x.row(7), 7);
        x.block(0);
        due("the only one", x.row(0), 1);
        none(x, 1);
        none(x, 7);
        x = Bench.founded("5");
        x.greatest();
        x.paid(0);
        due("no numbers", x.count(5), 0);
        none(x, 0);
        Bench.promise(52, "the ROW stays with each answer below 0, where no such number is meant");
        x = Bench.founded("5");
        x.full();
        x.value();
        x.leads(1);
        x.stake(8);
        x.exit(-1);
        Bench.text(x, "pre 0").thought();
        Bench.text(x, "pre 999999999:0=1").round();
        Bench.row(x, "the row stays", 5, 0, 0);
        Bench.text(x, "pre 999999999:0=1").sweep(1);
        Bench.row(x, "numbers below 0 that are meant", -3, -3, -3, -3, -3, -3, -3, -3);
        Bench.asksAlone("row", Bench::busy, y -> y.row(1), 357);
    }

    private static void tells(String call, int numbers, Bench.Call done) {
        RoundHouse x = Bench.busy();
        x.full();
        Bench.text(x, "pre 1500:0=100");
        done.on(x);
        due(call + ": numbers of the row", x.count(5), numbers);
        none(x, numbers);
        none(x, -1);
    }

    private static void rowOfEachCall() {
        Bench.promise(52, "told by a call that says so");
        tells("round", 3, RoundHouse::round);
        tells("thought", 7, RoundHouse::thought);
        tells("diluted", 2, x -> x.diluted(0));
        tells("threatens", 2, RoundHouse::threatens);
        tells("sweep", 8, x -> x.sweep(1));
        tells("ratchets", 4, RoundHouse::ratchets);
        tells("stake", 2, x -> x.stake(0));
        tells("full", 5, RoundHouse::full);
        tells("greatest", 8, RoundHouse::greatest);
        tells("control", 1, RoundHouse::control);
        tells("leads", 2, x -> x.leads(0));
        tells("block", 1, x -> x.block(0));
        tells("paid", 2, x -> x.paid(0));
        tells("value", 2, RoundHouse::value);
        tells("majority", 2, x -> x.majority(0));
        tells("swing", 8, x -> x.swing(0));
        tells("exit", 3, x -> x.exit(5));
        tells("gets", 2, x -> x.gets(0, 5));
        tells("over", 8, x -> x.over(5));
        tells("curve", 8, x -> x.curve(0, 5));
        tells("stage", 1, x -> x.stage(5));
        tells("preference", 1, x -> x.preference(1));
        Bench.promise(52, "the ROW stays with calls that do not tell of it");
        for (Map.Entry<String, Bench.Call> deed : deeds().entrySet()) {
            if (!deed.getKey().equals("round")) {
                tells(deed.getKey(), 5, deed.getValue());
            }
        }
        tells("keeps", 5, RoundHouse::keeps);
        tells("undo", 5, RoundHouse::undo);
        tells("sign", 5, x -> x.sign(0));
        tells("end", 5, x -> x.end(0) ? 1 : 0);
        tells("told", 5, x -> x.told(1, 0));
        tells("ratchet", 5, x -> x.ratchet(1, 1, 1, 1));
        tells("needs", 5, x -> x.needs(0, 1));
        tells("worth", 5, x -> x.worth(0, 5));
        tells("reaches", 5, x -> x.reaches(0, 1, 1));
        tells("multiple", 5, x -> x.multiple(1, 5));
        tells("flips", 5, x -> x.flips(1, 1000));
    }
}
