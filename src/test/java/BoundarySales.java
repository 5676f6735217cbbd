/** The boundaries of promises 38 to 47, sentence by sentence: a sale of all. */
public final class BoundarySales {
    private static final int MIN = Bench.MIN;
    private static final int MAX = Bench.MAX;
    private static final int BILLION = Bench.BILLION;
    private static final int TWO = 2000000000;
    private static final int[] BAD_SUMS = {-1, BILLION + 1, MIN, MAX};
    /** Steps that neither reaches() nor flips() takes. */
    private static final int[] BAD_STEPS = {0, -1, 1000001, MIN, MAX};

    public static void main(String[] args) {
        noSuchHolder();
        noSuchType();
        badSums();
        badSteps();
        askedAlone();
        exit();
        order();
        gets();
        over();
        withFiveClasses();
        worth();
        curve();
        stage();
        stageBounds();
        reaches();
        multiple();
        preference();
        flips();
        Bench.ends(38, 47);
    }

    private static void due(String call, long got, long want) {
        Bench.due(call, got, want);
    }

    /**
     * Common 1000 of holder 0; class 1: 1000 of 1, PREFERENCE 1000; class 2, part: 1000 of 2, PREFERENCE 2000;
     * 500 options of 3; the pool 500 gets nothing.
     */
    private static RoundHouse forSale() {
        RoundHouse x = Bench.founded("1000");
        x.pool(1000);
        x.grant(3, 500);
        Bench.round(x, "pre 2000:1=1000");
        Bench.round(x, "pre 3000 pref 20 part:2=1000");
        x.stake(1);
        Bench.text(x, "ab");
        return x;
    }

    private static RoundHouse poolAlone() {
        RoundHouse x = new RoundHouse();
        x.pool(9);
        x.full();
        return x;
    }

    /** Five classes of 10000 of holder 7, for 100000000 each, pref 50: PREFERENCES of 500000000. */
    private static RoundHouse preferred() {
        RoundHouse x = Bench.founded("10000");
        for (int i = 1; i <= 5; i++) {
            Bench.round(x, "pre " + i * 100000000 + " pref 50:7=100000000");
        }
        x.full();
        return x;
    }

    private static void noSuchHolder() {
        for (int h : Bench.BAD_HOLDERS) {
            Bench.promise(39, "no such HOLDER");
            Bench.refused("gets of " + h, BoundarySales::forSale, x -> x.gets(h, 5), -1);
            Bench.promise(42, "no such HOLDER");
            Bench.refused("curve of " + h, BoundarySales::forSale, x -> x.curve(h, 5), -1);
            Bench.promise(44, "no such HOLDER");
            Bench.refused("reaches of " + h, BoundarySales::forSale, x -> x.reaches(h, 0, 5), -1);
            Bench.promise(45, "no such HOLDER");
            Bench.refused("multiple of " + h, BoundarySales::forSale, x -> x.multiple(h, 5), -1);
        }
    }

    private static void noSuchType() {
        for (int t : Bench.BAD_TYPES) {
            Bench.promise(41, "no such CLASS");
            Bench.refused("worth of class " + t, BoundarySales::forSale, x -> x.worth(t, 5), -1);
            Bench.promise(46, "no such CLASS");
            Bench.refused("preference of class " + t, BoundarySales::forSale, x -> x.preference(t), -1);
            Bench.promise(47, "no such CLASS");
            Bench.refused("flips of class " + t, BoundarySales::forSale, x -> x.flips(t, 5), -1);
        }
        Bench.promise(46, "COMMON, too");
        Bench.refused("preference of common", BoundarySales::forSale, x -> x.preference(0), -1);
        Bench.promise(47, "COMMON, too");
        Bench.refused("flips of common", BoundarySales::forSale, x -> x.flips(0, 5), -1);
        RoundHouse x = preferred();
        Bench.promise(41, "no such CLASS, of five");
        due("worth of the last", x.worth(5, 10000), 10000);
        due("worth", x.worth(6, 10000), -1);
        Bench.promise(46, "no such CLASS, of five");
        due("preference of the last", x.preference(5), 500000000);
        due("preference", x.preference(6), -1);
        Bench.promise(47, "no such CLASS, of five");
        due("flips of the last", x.flips(5, 1), -2);
        due("flips", x.flips(6, 1), -1);
    }

    private static void badSums() {
        for (int s : BAD_SUMS) {
            Bench.promise(38, "another S");
            Bench.refused("exit of " + s, BoundarySales::forSale, x -> x.exit(s), -1);
            Bench.promise(39, "another S");
            Bench.refused("gets by " + s, BoundarySales::forSale, x -> x.gets(1, s), -1);
            Bench.promise(40, "another S");
            Bench.refused("over of " + s, BoundarySales::forSale, x -> x.over(s), -1);
            Bench.promise(41, "another S, ahead of: nobody has any");
            Bench.refused("worth by " + s, BoundarySales::forSale, x -> x.worth(1, s), -1);
            Bench.refused("worth by " + s, RoundHouse::new, x -> x.worth(0, s), -1);
            Bench.promise(43, "another S");
            Bench.refused("stage by " + s, BoundarySales::forSale, x -> x.stage(s), -1);
            Bench.promise(45, "another S, ahead of: it gave none");
            Bench.refused("multiple by " + s, BoundarySales::forSale, x -> x.multiple(1, s), -1);
            Bench.refused("multiple by " + s, BoundarySales::forSale, x -> x.multiple(0, s), -1);
        }
    }

    private static void badSteps() {
        for (int d : BAD_STEPS) {
            Bench.promise(44, "another d");
            Bench.refused("reaches by " + d, BoundarySales::forSale, x -> x.reaches(1, 0, d), -1);
            Bench.refused("reaches by " + d, BoundarySales::forSale, x -> x.reaches(1, MAX, d), -1);
            Bench.promise(47, "another d");
            Bench.refused("flips by " + d, BoundarySales::forSale, x -> x.flips(1, d), -1);
            Bench.refused("flips by " + d, BoundarySales::forSale, x -> x.flips(2, d), -1);
        }
        Bench.promise(42, "another d");
        for (int d : new int[] {0, -1, 125000001, MIN, MAX}) {
            Bench.refused("curve by " + d, BoundarySales::forSale, x -> x.curve(1, d), -1);
        }
        Bench.promise(44, "x is below 0");
        for (int least : new int[] {-1, -2, MIN}) {
            Bench.refused("reaches " + least, BoundarySales::forSale, x -> x.reaches(1, least, 5), -1);
        }
    }

    private static void askedAlone() {
        Bench.promise(38, "calls that ask change nothing but the ROW");
        Bench.asks("exit", BoundarySales::forSale, x -> x.exit(9000), 2000);
        Bench.promise(39, "calls that ask change nothing but the ROW");
        Bench.asks("gets", BoundarySales::forSale, x -> x.gets(2, 9000), 4000);
        Bench.promise(40, "calls that ask change nothing but the ROW");
        Bench.asks("over", BoundarySales::forSale, x -> x.over(9002), 2);
        Bench.promise(41, "calls that ask change nothing but the ROW");
        Bench.asksAlone("worth", BoundarySales::forSale, x -> x.worth(2, 9000), 40000);
        Bench.promise(42, "calls that ask change nothing but the ROW");
        Bench.asks("curve", BoundarySales::forSale, x -> x.curve(1, 500), 3500);
        Bench.promise(43, "calls that ask change nothing but the ROW");
        Bench.asks("stage", BoundarySales::forSale, x -> x.stage(2500), 4);
        Bench.promise(44, "calls that ask change nothing but the ROW");
        Bench.asksAlone("reaches", BoundarySales::forSale, x -> x.reaches(1, 1, 100), 2100);
        Bench.promise(45, "calls that ask change nothing but the ROW");
        Bench.asksAlone("multiple", BoundarySales::forSale, x -> x.multiple(2, 9000), 400);
        Bench.promise(46, "calls that ask change nothing but the ROW");
        Bench.asks("preference", BoundarySales::forSale, x -> x.preference(1), 1000);
        Bench.promise(47, "calls that ask change nothing but the ROW");
        Bench.asksAlone("flips", BoundarySales::forSale, x -> x.flips(1, 64), 5504);
    }

    private static void sold(RoundHouse x, int s, long common, long... row) {
        due("exit(" + s + ")", x.exit(s), common);
        Bench.row(x, "exit(" + s + ")", row);
    }

    private static void exit() {
        Bench.promise(38, "S 0 .. 1000000000");
        RoundHouse x = forSale();
        sold(x, 0, 0, 0, 0, 0);
        sold(x, 1, 0, 0, 0, 1);
        // 999998000 by 3500 parts of 1000 each
        sold(x, BILLION, 285713714, 2, 285713714, 285715714);
        Bench.promise(38, "its PREFERENCE, or what is left, if that is less");
        sold(x, 1999, 0, 0, 0, 1999);
        sold(x, 2000, 0, 0, 0, 2000);
        sold(x, 2001, 0, 0, 1, 2000);
        sold(x, 2999, 0, 0, 999, 2000);
        sold(x, 3000, 0, 0, 1000, 2000);
        Bench.promise(38, "what is left then is shared, cut");
        sold(x, 3001, 0, 0, 1000, 2000);
        sold(x, 3002, 0, 0, 1000, 2000);
        sold(x, 3003, 1, 0, 1000, 2001);
        Bench.promise(38, "would get more with Q and itself");
        sold(x, 5500, 1000, 0, 1000, 3000);
        sold(x, 5503, 1001, 0, 1000, 3001);
        sold(x, 5504, 1001, 2, 1001, 3001);
        Bench.promise(38, "nobody is there");
        sold(new RoundHouse(), 0, 0, 0);
        sold(new RoundHouse(), BILLION, 0, 0);
        sold(poolAlone(), BILLION, 0, 0);
        sold(Bench.brim(), BILLION, BILLION, 0);
        x = Bench.founded("1");
        sold(x, BILLION, BILLION, 0);
        x.pool(2);
        x.grant(7, 1);
        sold(x, 3, 1, 0);
        x.cancels(0, 0, 1);
        sold(x, 3, 0, 0);
    }

    private static void order() {
        Bench.promise(38, "from the last CLASS down, and Q of five");
        RoundHouse x = preferred();
        sold(x, 499999999, 0, 0, 0, 0, 0, 0, 499999999);
        sold(x, 500000000, 0, 0, 0, 0, 0, 0, 500000000);
        sold(x, 500000001, 0, 0, 0, 0, 0, 1, 500000000);
        sold(x, BILLION, 0, 0, 0, 0, 0, 500000000, 500000000);
        x = Bench.five();
        // 10 of 1050 parts each: by 1050 each gets 10 as a preference, by 1155 11 if all convert.
        sold(x, 49, 0, 0, 9, 10, 10, 10, 10);
        sold(x, 50, 0, 0, 10, 10, 10, 10, 10);
        sold(x, 1050, 1000, 0, 10, 10, 10, 10, 10);
        sold(x, 1155, 1100, 62, 11, 11, 11, 11, 11);
        Bench.promise(38, "PREF 0: all convert for the first part that is whole");
        x = Bench.founded("1");
        Bench.round(x, "pre 1 pref 0:1=1");
        sold(x, 1, 1, 0, 0);
        sold(x, 2, 1, 2, 1);
        Bench.promise(38, "a CLASS with PART never comes to Q");
        x = forSale();
        due("exit", x.exit(BILLION) > 0 ? x.row(0) : -1, 2);
        x.term(2, 2, 0);
        due("exit", x.exit(BILLION) > 0 ? x.row(0) : -1, 6);
        Bench.promise(38, "a CLASS of which nobody has any gets nothing");
        x = forSale();
        x.cancels(1, 1, 1000);
        sold(x, 2000, 0, 0, 0, 2000);
        sold(x, 4500, 1000, 0, 0, 3000);
    }

    private static void got(RoundHouse x, int holder, int s, long first, long then) {
        due("gets(" + holder + ", " + s + ")", x.gets(holder, s), first + then);
        Bench.row(x, "gets", first, then);
    }

    private static void gets() {
        Bench.promise(39, "S 0 .. 1000000000");
        RoundHouse x = forSale();
        for (int h = 0; h < 8; h++) {
            got(x, h, 0, 0, 0);
        }
        got(x, 0, BILLION, 0, 285713714);
        got(x, 1, BILLION, 0, 285713714);
        got(x, 2, BILLION, 2000, 285713714);
        got(x, 3, BILLION, 0, 142856857);
        got(x, 7, BILLION, 0, 0);
        Bench.promise(39, "each of these cut");
        got(x, 2, 1999, 1999, 0);
        got(x, 2, 3002, 2000, 0);
        got(x, 2, 3003, 2000, 1);
        got(x, 3, 3004, 0, 0);
        got(x, 3, 3005, 0, 1);
        got(x, 1, 5503, 1000, 0);
        got(x, 1, 5504, 0, 1001);
        x = Bench.founded("1,1,1");
        x.pool(1);
        x.grant(0, 1);
        got(x, 0, 3, 0, 0);
        got(x, 0, 4, 0, 2);
        got(x, 1, 7, 0, 1);
        // Common and options of one HOLDER are cut apart: 6 by 4 twice are 2, 12 by 4 would be 3.
        got(x, 0, 6, 0, 2);
        Bench.promise(39, "nobody has anything");
        got(new RoundHouse(), 7, BILLION, 0, 0);
        Bench.promise(39, "of each PREFERENCE by SHARES");
        x = Bench.busy();
        // 500 of class 2 ahead; 100 and 50 of class 1.
        got(x, 4, 499, 499, 0);
        got(x, 1, 501, 0, 0);
        got(x, 1, 502, 1, 0);
        got(x, 2, 502, 0, 0);
        got(x, 2, 503, 1, 0);
    }

    private static void withFiveClasses() {
        RoundHouse x = Bench.fiveAndPool();
        Bench.promise(39, "with five CLASSES");
        got(x, 0, 9, 0, 0);
        got(x, 0, 10, 1, 0);
        got(x, 1, 10, 9, 0);
        got(x, 1, 50, 49, 0);
        got(x, 2, 50, 0, 0);
        got(x, 1, 1057, 49, 0);
        got(x, 0, 1057, 1, 907);
        got(x, 2, 1057, 0, 100);
        // All five convert: 2 for each of 1057 parts.
        got(x, 0, 2114, 0, 1816);
        got(x, 1, 2114, 0, 98);
        Bench.promise(40, "with five CLASSES");
        overOf(x, 50, 0, 1, 49, 0, 0, 0, 0, 0, 0);
        overOf(x, 1057, 0, 908, 49, 100, 0, 0, 0, 0, 0);
        overOf(x, 2114, 0, 1816, 98, 200, 0, 0, 0, 0, 0);
        Bench.promise(39, "fewer CLASSES than in the sale ahead");
        x.end(0);
        x.founds();
        x.issues(3, 2);
        got(x, 3, 2114, 0, 2114);
        got(x, 1, 2114, 0, 0);
    }

    private static void overOf(RoundHouse x, int s, long over, long... gets) {
        due("over(" + s + ")", x.over(s), over);
        Bench.row(x, "over(" + s + ")", gets);
    }

    private static void over() {
        Bench.promise(40, "since parts are cut, of HOLDERS");
        RoundHouse x = forSale();
        overOf(x, 0, 0, 0, 0, 0, 0, 0, 0, 0, 0);
        overOf(x, 3000, 0, 0, 1000, 2000, 0, 0, 0, 0, 0);
        overOf(x, 3001, 1, 0, 1000, 2000, 0, 0, 0, 0, 0);
        overOf(x, 3003, 1, 1, 1000, 2001, 0, 0, 0, 0, 0);
        overOf(x, 3005, 0, 2, 1000, 2002, 1, 0, 0, 0, 0);
        x = Bench.founded("1,1,1,1,1,1,1,1");
        overOf(x, 7, 7, 0, 0, 0, 0, 0, 0, 0, 0);
        overOf(x, 8, 0, 1, 1, 1, 1, 1, 1, 1, 1);
        overOf(x, BILLION, 0, 125000000, 125000000, 125000000, 125000000, 125000000, 125000000, 125000000, 125000000);
        x = Bench.busy();
        overOf(x, 502, 1, 0, 1, 0, 0, 500, 0, 0, 0);
        Bench.promise(40, "what nobody is there to get");
        overOf(new RoundHouse(), BILLION, BILLION, 0, 0, 0, 0, 0, 0, 0, 0);
        overOf(new RoundHouse(), 0, 0, 0, 0, 0, 0, 0, 0, 0, 0);
        overOf(poolAlone(), 77, 77, 0, 0, 0, 0, 0, 0, 0, 0);
        // Nobody but class 1, which has its preference: the rest is nobody's.
        x = Bench.founded("1");
        Bench.round(x, "pre 1:1=1");
        x.cancels(0, 0, 1);
        overOf(x, 1, 0, 0, 1, 0, 0, 0, 0, 0, 0);
        // It would rather convert: alone it gets all.
        overOf(x, 2, 0, 0, 2, 0, 0, 0, 0, 0, 0);
    }

    private static void worth() {
        Bench.promise(41, "cut, 2000000000 at most");
        RoundHouse x = Bench.founded("1");
        due("0", x.worth(0, 0), 0);
        due("1", x.worth(0, 1), 10000);
        due("below", x.worth(0, 199999), 1999990000);
        due("at the bound", x.worth(0, 200000), TWO);
        due("above", x.worth(0, 200001), TWO);
        due("above what an int is", x.worth(0, 214749), TWO);
        due("the greatest", x.worth(0, BILLION), TWO);
        x = Bench.founded("5000");
        due("just below", x.worth(0, 999999999), 1999999998);
        due("at the bound", x.worth(0, BILLION), TWO);
        x = Bench.founded("4999");
        due("just above", x.worth(0, BILLION), TWO);
        x = Bench.founded("10001");
        due("nothing", x.worth(0, 0), 0);
        due("cut", x.worth(0, 1), 0);
        due("cut", x.worth(0, 2), 1);
        x = Bench.founded("10000");
        due("1", x.worth(0, 1), 1);
        x = forSale();
        due("a part of its preference", x.worth(1, 2001), 10);
        due("nothing is left for it", x.worth(1, 2000), 0);
        Bench.promise(41, "nobody has any");
        Bench.refused("worth of nobody", RoundHouse::new, y -> y.worth(0, 5), -2);
        Bench.refused("worth of the pool", BoundarySales::poolAlone, y -> y.worth(0, 0), -2);
        x = forSale();
        x.cancels(1, 1, 999);
        due("one has", x.worth(1, BILLION) > 0 ? 1 : 0, 1);
        x.cancels(1, 1, 1);
        due("nobody has any", x.worth(1, BILLION), -2);
    }

    private static void curve() {
        Bench.promise(42, "d 1 .. 125000000");
        RoundHouse x = Bench.founded("1");
        due("1", x.curve(0, 1), 36);
        Bench.row(x, "1", 1, 2, 3, 4, 5, 6, 7, 8);
        due("the greatest", x.curve(0, 125000000), 4500000000L);
        Bench.row(x, "the greatest", 125000000, 250000000, 375000000, 500000000, 625000000, 750000000, 875000000, BILLION);
        due("it has none", x.curve(7, 125000000), 0);
        Bench.row(x, "it has none", 0, 0, 0, 0, 0, 0, 0, 0);
        due("nobody", new RoundHouse().curve(7, 125000000), 0);
        x = forSale();
        due("across its preference", x.curve(1, 700), 100 + 800 + 1000 + 1000 + 1000 + 1028);
        Bench.row(x, "across its preference", 0, 0, 100, 800, 1000, 1000, 1000, 1028);
    }

    private static void staged(RoundHouse x, int s, int bits, long lack) {
        due("stage(" + s + ")", x.stage(s), bits);
        Bench.row(x, "stage(" + s + ")", lack);
    }

    private static void stage() {
        Bench.promise(43, "that get their whole PREFERENCE; what the others lack");
        RoundHouse x = forSale();
        staged(x, 0, 0, 3000);
        staged(x, 1999, 0, 1001);
        staged(x, 2000, 4, 1000);
        staged(x, 2999, 4, 1);
        staged(x, 3000, 6, 0);
        staged(x, 3001, 6, 0);
        Bench.promise(43, "those of Q do not");
        staged(x, 5503, 6, 0);
        staged(x, 5504, 4, 0);
        staged(x, BILLION, 4, 0);
        Bench.promise(43, "one of 0 is whole");
        x.term(1, 1, 0);
        staged(x, 0, 2, 2000);
        staged(x, 1999, 2, 1);
        staged(x, 2000, 6, 0);
        staged(x, 2003, 6, 0);
        staged(x, 2004, 4, 0);
        x = forSale();
        x.cancels(2, 2, 1000);
        staged(x, 0, 4, 1000);
        Bench.promise(43, "no CLASSES");
        staged(new RoundHouse(), 0, 0, 0);
        staged(new RoundHouse(), BILLION, 0, 0);
    }

    private static void stageBounds() {
        Bench.promise(43, "2000000000 at most");
        staged(preferred(), 0, 0, TWO);
        staged(preferred(), 499999999, 0, TWO);
        staged(preferred(), 500000000, 32, TWO);
        staged(preferred(), 500000001, 32, 1999999999);
        staged(preferred(), BILLION, 48, 1500000000);
    }

    private static void reaches() {
        Bench.promise(44, "d 1 .. 1000000, of S 0, d, .. 100 d the first");
        RoundHouse x = Bench.founded("1");
        due("0 at once", x.reaches(0, 0, 1), 0);
        due("0 of nobody", new RoundHouse().reaches(7, 0, 1000000), 0);
        due("1", x.reaches(0, 1, 1), 1);
        due("1", x.reaches(0, 1, 1000000), 1000000);
        due("99", x.reaches(0, 99, 1), 99);
        due("the last one", x.reaches(0, 100, 1), 100);
        due("beyond", x.reaches(0, 101, 1), -2);
        due("just beyond a step", x.reaches(0, 1000001, 1000000), 2000000);
        due("at a step", x.reaches(0, 1000000, 1000000), 1000000);
        due("the last one", x.reaches(0, 99000001, 1000000), 100000000);
        due("the last one", x.reaches(0, 100000000, 1000000), 100000000);
        due("beyond", x.reaches(0, 100000001, 1000000), -2);
        due("beyond", x.reaches(0, MAX, 1000000), -2);
        x = forSale();
        due("its whole preference", x.reaches(1, 1000, 30), 3000);
        due("one less", x.reaches(1, 999, 30), 3000);
        due("one more", x.reaches(1, 1001, 64), 5504);
        Bench.promise(44, "by none");
        Bench.refused("reaches", BoundarySales::forSale, y -> y.reaches(7, 1, 1000000), -2);
        Bench.refused("reaches", BoundarySales::forSale, y -> y.reaches(1, 1, 20), -2);
        due("by the last one", forSale().reaches(1, 1, 21), 2016);
    }

    private static void multiple() {
        Bench.promise(45, "cut, 2000000000 at most");
        RoundHouse x = Bench.founded("10000");
        Bench.round(x, "pre 20001:0=1");
        due("nothing", x.multiple(0, 0), 0);
        due("1", x.multiple(0, 1), 100);
        due("below", x.multiple(0, 19999999), 1999999900);
        due("at the bound", x.multiple(0, 20000000), TWO);
        due("above", x.multiple(0, 20000001), TWO);
        due("above what an int is", x.multiple(0, 21474837), TWO);
        due("the greatest", x.multiple(0, BILLION), TWO);
        x = forSale();
        due("cut", x.multiple(1, 2009), 0);
        due("cut", x.multiple(1, 2010), 1);
        due("once", x.multiple(1, 3000), 100);
        due("the greatest", x.multiple(2, BILLION), 28571571);
        Bench.promise(45, "it gave none");
        Bench.refused("multiple", BoundarySales::forSale, y -> y.multiple(0, 9000), -2);
        Bench.refused("multiple", BoundarySales::forSale, y -> y.multiple(7, 0), -2);
        Bench.refused("multiple", RoundHouse::new, y -> y.multiple(0, 0), -2);
        x.gives(1, 0);
        due("who has it gave none", x.multiple(0, 9000), -2);
        due("who gave it gets none", x.multiple(1, 9000), 0);
    }

    /** Class 1: 769230770 for 10000 each. */
    private static RoundHouse many(String pref) {
        RoundHouse x = Bench.founded("1");
        StringBuilder words = new StringBuilder("pre 1 pref " + pref + ":");
        for (int h = 0; h < 7; h++) {
            words.append(h).append("=100000000,");
        }
        due("price", Bench.round(x, words + "7=69230770"), 10000);
        return x;
    }

    private static void prefers(RoundHouse x, int type, long one, long down) {
        due("preference(" + type + ")", x.preference(type), one);
        Bench.row(x, "preference(" + type + ")", down);
    }

    private static void preference() {
        Bench.promise(46, "cut, 2000000000 at most");
        RoundHouse x = many("26");
        prefers(x, 1, TWO, TWO);
        x.cancels(7, 1, 1);
        prefers(x, 1, 1999999999, 1999999999);
        prefers(many("50"), 1, TWO, TWO);
        prefers(many("0"), 1, 0, 0);
        prefers(many("1"), 1, 76923077, 76923077);
        x = Bench.founded("1000");
        Bench.round(x, "pre 1000 pref 1:1=19");
        prefers(x, 1, 1, 1);
        x.cancels(1, 1, 10);
        prefers(x, 1, 0, 0);
        x.cancels(1, 1, 9);
        prefers(x, 1, 0, 0);
        Bench.promise(46, "of all together from the last one down to it, likewise");
        x = preferred();
        prefers(x, 5, 500000000, 500000000);
        prefers(x, 4, 500000000, BILLION);
        prefers(x, 3, 500000000, 1500000000);
        prefers(x, 2, 500000000, TWO);
        prefers(x, 1, 500000000, TWO);
        x.cancels(7, 5, 1);
        prefers(x, 2, 500000000, 1999950000);
        prefers(x, 1, 500000000, TWO);
    }

    private static void flips() {
        Bench.promise(47, "d 1 .. 1000000, of S 0, d, .. 100 d the first");
        RoundHouse x = Bench.founded("1000");
        Bench.round(x, "pre 1000:1=995");
        // 995 of 1995 parts are 996 or more from 1998 on.
        due("at the last step", x.flips(1, 20), 2000);
        due("beyond the last step", x.flips(1, 19), -2);
        due("at it", x.flips(1, 1998), 1998);
        due("one below it", x.flips(1, 1997), 3994);
        due("at it", x.flips(1, 999), 1998);
        due("the greatest", x.flips(1, 1000000), 1000000);
        due("the least", x.flips(1, 1), -2);
        x = Bench.founded("1");
        Bench.round(x, "pre 1 pref 0:1=1");
        due("PREF 0", x.flips(1, 1), 2);
        Bench.promise(47, "by none");
        Bench.refused("flips with part", BoundarySales::forSale, y -> y.flips(2, 1000000), -2);
        Bench.refused("flips", BoundarySales::forSale, y -> y.flips(1, 55), -2);
        due("at 5544", forSale().flips(1, 56), 5544);
    }
}
