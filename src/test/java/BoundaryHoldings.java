/** The boundaries of promises 24 to 37, sentence by sentence: who has what. */
public final class BoundaryHoldings {
    private static final int MIN = Bench.MIN;
    private static final int MAX = Bench.MAX;
    private static final int BILLION = Bench.BILLION;

    public static void main(String[] args) {
        noSuchHolder();
        noSuchType();
        askedAlone();
        shares();
        stake();
        full();
        type();
        needs();
        greatest();
        control();
        leads();
        block();
        paid();
        value();
        majority();
        swing();
        withFiveClasses();
        oneByOne();
        Bench.ends(24, 37);
    }

    private static void due(String call, long got, long want) {
        Bench.due(call, got, want);
    }

    private static void noSuchHolder() {
        for (int h : Bench.BAD_HOLDERS) {
            Bench.promise(24, "no such HOLDER");
            Bench.refused("shares of " + h, Bench::busy, x -> x.shares(h, 0), -1);
            Bench.promise(25, "no such HOLDER");
            Bench.refused("options of " + h, Bench::busy, x -> x.options(h), -1);
            Bench.promise(26, "no such HOLDER");
            Bench.refused("stake of " + h, Bench::busy, x -> x.stake(h), -1);
            Bench.promise(29, "no such HOLDER");
            Bench.refused("needs of " + h, Bench::busy, x -> x.needs(h, 1), -1);
            Bench.refused("needs of " + h + " of nobody", RoundHouse::new, x -> x.needs(h, 1), -1);
            Bench.promise(34, "no such HOLDER");
            Bench.refused("paid of " + h, Bench::busy, x -> x.paid(h), -1);
            Bench.promise(36, "no such HOLDER");
            Bench.refused("majority of " + h, Bench::busy, x -> x.majority(h), -1);
            Bench.promise(37, "no such HOLDER");
            Bench.refused("swing of " + h, Bench::busy, x -> x.swing(h), -1);
        }
    }

    private static void noSuchType() {
        for (int t : Bench.BAD_TYPES) {
            Bench.promise(24, "no such CLASS");
            Bench.refused("shares of class " + t, Bench::busy, x -> x.shares(0, t), -1);
            Bench.promise(28, "no such CLASS");
            for (int what = -1; what <= 8; what++) {
                int w = what;
                Bench.refused("type of class " + t, Bench::busy, x -> x.type(t, w), -1);
            }
            Bench.promise(32, "no such CLASS");
            Bench.refused("leads of class " + t, Bench::busy, x -> x.leads(t), -1);
            Bench.promise(33, "no such CLASS");
            Bench.refused("block of class " + t, Bench::busy, x -> x.block(t), -1);
        }
        RoundHouse x = Bench.five();
        Bench.promise(24, "no such CLASS, of five");
        due("shares of the last", x.shares(1, 5), 10);
        due("shares", x.shares(1, 6), -1);
        Bench.promise(28, "no such CLASS, of five");
        due("type of the last", x.type(5, 0), 10);
        due("type", x.type(6, 0), -1);
        Bench.promise(32, "no such CLASS, of five");
        due("leads of the last", x.leads(5), 1);
        due("leads", x.leads(6), -1);
        Bench.promise(33, "no such CLASS, of five");
        due("block of the last", x.block(5), 1);
        due("block", x.block(6), -1);
    }

    private static void askedAlone() {
        Bench.promise(24, "calls that ask change nothing but the ROW");
        Bench.asksAlone("shares", Bench::busy, x -> x.shares(4, 2), 250);
        Bench.promise(25, "calls that ask change nothing but the ROW");
        Bench.asksAlone("options", Bench::busy, x -> x.options(3), 40);
        Bench.promise(26, "calls that ask change nothing but the ROW");
        Bench.asks("stake", Bench::busy, x -> x.stake(4), 250);
        Bench.promise(27, "calls that ask change nothing but the ROW");
        Bench.asks("full", Bench::busy, RoundHouse::full, 1500);
        Bench.promise(28, "calls that ask change nothing but the ROW");
        Bench.asksAlone("type", Bench::busy, x -> x.type(2, 4), 20);
        Bench.promise(29, "calls that ask change nothing but the ROW");
        Bench.asksAlone("needs", Bench::busy, x -> x.needs(0, 10), 4);
        Bench.promise(30, "calls that ask change nothing but the ROW");
        Bench.asks("greatest", Bench::busy, RoundHouse::greatest, 0);
        Bench.promise(31, "calls that ask change nothing but the ROW");
        Bench.asks("control", Bench::busy, RoundHouse::control, 2);
        Bench.promise(32, "calls that ask change nothing but the ROW");
        Bench.asks("leads", Bench::busy, x -> x.leads(1), 1);
        Bench.promise(33, "calls that ask change nothing but the ROW");
        Bench.asks("block", Bench::busy, x -> x.block(1), 1);
        Bench.promise(34, "calls that ask change nothing but the ROW");
        Bench.asks("paid", Bench::busy, x -> x.paid(1), 100);
        Bench.promise(35, "calls that ask change nothing but the ROW");
        Bench.asks("value", Bench::busy, RoundHouse::value, 1500);
        Bench.promise(36, "calls that ask change nothing but the ROW");
        Bench.asks("majority", Bench::busy, x -> x.majority(0), 201);
        Bench.promise(37, "calls that ask change nothing but the ROW");
        Bench.asks("swing", Bench::busy, x -> x.swing(7), 0);
    }

    private static void shares() {
        Bench.promise(24, "SHARES of each HOLDER in each CLASS");
        long[][] want = {{600, 400, 0, 0, 0, 0, 0, 0}, {0, 100, 50, 0, 0, 0, 0, 0}, {0, 0, 0, 0, 250, 0, 0, 0}};
        RoundHouse x = Bench.busy();
        for (int t = 0; t < 3; t++) {
            for (int h = 0; h < 8; h++) {
                due("shares", x.shares(h, t), want[t][h]);
            }
        }
        due("all that may be", Bench.founded("999999999").shares(0, 0), 999999999);
        RoundHouse y = new RoundHouse();
        y.issues(7, BILLION);
        due("all that may be", y.shares(7, 0), BILLION);
        Bench.promise(25, "OPTIONS of each HOLDER");
        for (int h = 0; h < 8; h++) {
            due("options", x.options(h), h == 3 ? 40 : 0);
        }
        y = new RoundHouse();
        y.pool(BILLION);
        y.grant(7, BILLION);
        due("all that may be", y.options(7), BILLION);
        y.lapses(7, BILLION);
        due("none", y.options(7), 0);
    }

    private static void stakeOf(RoundHouse x, int holder, long stake, long ofFull, long ofShares) {
        due("stake", x.stake(holder), stake);
        Bench.row(x, "stake", ofFull, ofShares);
    }

    private static void stake() {
        Bench.promise(26, "0 of 0");
        stakeOf(new RoundHouse(), 7, 0, 0, 0);
        RoundHouse x = new RoundHouse();
        x.pool(5);
        stakeOf(x, 0, 0, 0, 0);
        x.grant(0, 5);
        stakeOf(x, 0, 5, 1000, 0);
        Bench.promise(26, "thousandths, cut");
        x = Bench.founded("1,999");
        stakeOf(x, 0, 1, 1, 1);
        stakeOf(x, 1, 999, 999, 999);
        x = Bench.founded("1,1000");
        stakeOf(x, 0, 1, 0, 0);
        stakeOf(x, 1, 1000, 999, 999);
        x = Bench.founded("1");
        stakeOf(x, 0, 1, 1000, 1000);
        stakeOf(x, 1, 0, 0, 0);
        x.pool(999);
        stakeOf(x, 0, 1, 1, 1000);
        x.pool(1000);
        stakeOf(x, 0, 1, 0, 1000);
        x = new RoundHouse();
        x.issues(7, BILLION);
        stakeOf(x, 7, BILLION, 1000, 1000);
        Bench.promise(26, "CONVERTED of its SHARES, CLASS by CLASS, cut");
        stakeOf(Bench.halves(), 1, 78, 36, 36);
        stakeOf(Bench.halves(), 3, 76, 35, 35);
        x = Bench.busy();
        stakeOf(x, 1, 500, 333, 357);
        stakeOf(x, 3, 40, 26, 0);
    }

    private static void full() {
        Bench.promise(27, "all COMMON, CONVERTED of each CLASS from 1 on, all OPTIONS, the POOL");
        RoundHouse x = Bench.busy();
        due("full", x.full(), 1500);
        Bench.row(x, "full", 1000, 150, 250, 40, 60);
        x = Bench.five();
        due("five classes", x.full(), 1050);
        Bench.row(x, "five classes", 1000, 10, 10, 10, 10, 10, 0, 0);
        x = Bench.halves();
        due("converted", x.full(), 2155);
        Bench.row(x, "converted", 2000, 154, 1, 0, 0);
        x = Bench.founded("999999997");
        x.pool(3);
        x.grant(4, 1);
        due("all that may be", x.full(), BILLION);
        Bench.row(x, "all that may be", 999999997, 1, 2);
    }

    private static void type() {
        Bench.promise(28, "what 0 .. 7; another what, 1 .. 6 of COMMON");
        long[] first = {150, 10000, 10000, 1, 10, 0, 0, 6};
        long[] second = {250, 10000, 10000, 0, 20, 1, 1, 16};
        RoundHouse x = Bench.busy();
        for (int what = 0; what <= 7; what++) {
            due("class 1, what " + what, x.type(1, what), first[what]);
            due("class 2, what " + what, x.type(2, what), second[what]);
        }
        due("all common", x.type(0, 0), 1000);
        due("who has common", x.type(0, 7), 3);
        for (int what = 1; what <= 6; what++) {
            int w = what;
            Bench.refused("type of common, what " + what, Bench::busy, y -> y.type(0, w), -1);
        }
        for (int what : new int[] {-1, 8, 9, MIN, MAX}) {
            for (int t = 0; t <= 2; t++) {
                int of = t;
                Bench.refused("type, what " + what, Bench::busy, y -> y.type(of, what), -1);
            }
        }
        due("PRICE and CONV", Bench.halves().type(1, 1), 10000);
        due("PRICE and CONV", Bench.halves().type(1, 2), 6499);
        due("all holders", Bench.founded("1,1,1,1,1,1,1,1").type(0, 7), 255);
        due("the last holder", Bench.founded("0,0,0,0,0,0,0,1").type(0, 7), 128);
        due("nobody", new RoundHouse().type(0, 7), 0);
        due("nobody", new RoundHouse().type(0, 0), 0);
    }

    private static void needs() {
        Bench.promise(29, "n 1 .. 1000000000; another n");
        for (int n : new int[] {0, -1, BILLION + 1, MIN, MAX}) {
            Bench.refused("needs of " + n, Bench::busy, x -> x.needs(0, n), -1);
            Bench.refused("needs of " + n + " of nobody", RoundHouse::new, x -> x.needs(0, n), -1);
        }
        RoundHouse x = Bench.busy();
        due("1", x.needs(0, 1), 1);
        due("all", x.needs(0, BILLION), 400000000);
        Bench.promise(29, "upwards");
        due("600 of 1500: 2 of 5", x.needs(0, 5), 2);
        due("upwards", x.needs(0, 4), 2);
        due("upwards", x.needs(0, 6), 3);
        due("upwards", x.needs(3, 1), 1);
        due("none of none", x.needs(7, BILLION), 0);
        x = Bench.founded("999999999,1");
        due("nearly all", x.needs(0, BILLION), 999999999);
        due("nearly none", x.needs(1, BILLION), 1);
        due("nearly none", x.needs(1, 1), 1);
        x = new RoundHouse();
        x.issues(0, BILLION);
        due("all", x.needs(0, BILLION), BILLION);
        Bench.promise(29, "0 of FULL 0");
        due("nobody", new RoundHouse().needs(0, BILLION), 0);
        due("nobody", new RoundHouse().needs(7, 1), 0);
    }

    private static void greatest() {
        Bench.promise(30, "of equal ones the first, the lesser number");
        RoundHouse x = Bench.founded("1,1,1,1,1,1,1,1");
        due("all alike", x.greatest(), 0);
        Bench.row(x, "all alike", 0, 1, 2, 3, 4, 5, 6, 7);
        x.issues(7, 1);
        due("the last one", x.greatest(), 7);
        Bench.row(x, "the last one", 7, 0, 1, 2, 3, 4, 5, 6);
        x = Bench.founded("0,5,0,5,9,0,5,9");
        due("two of 9", x.greatest(), 4);
        Bench.row(x, "two of 9", 4, 7, 1, 3, 6, 0, 2, 5);
        x.pool(4);
        x.grant(1, 4);
        due("options count", x.greatest(), 1);
        Bench.row(x, "options count", 1, 4, 7, 3, 6, 0, 2, 5);
        x = new RoundHouse();
        due("nobody", x.greatest(), 0);
        Bench.row(x, "nobody", 0, 1, 2, 3, 4, 5, 6, 7);
    }

    private static void controlled(RoundHouse x, int many, int bits) {
        due("control", x.control(), many);
        Bench.row(x, "control", bits);
    }

    private static RoundHouse optionsAlone() {
        RoundHouse x = new RoundHouse();
        x.pool(9);
        x.grant(2, 4);
        x.full();
        return x;
    }

    private static void control() {
        Bench.promise(31, "more than half");
        controlled(Bench.founded("5,5"), 2, 3);
        controlled(Bench.founded("5,6"), 1, 2);
        controlled(Bench.founded("5,5,1"), 2, 3);
        controlled(Bench.founded("4,2,2"), 2, 3);
        controlled(Bench.founded("5,2,2"), 1, 1);
        controlled(Bench.founded("1,1,1,1,1,1,1,1"), 5, 31);
        controlled(Bench.founded("0,0,0,0,0,0,0,1"), 1, 128);
        controlled(Bench.brim(), 1, 1);
        Bench.promise(31, "of as few those with the most, of like ones the least bits");
        controlled(Bench.founded("1,2,2,3"), 2, 10);
        controlled(Bench.founded("2,3,3,2,2"), 3, 7);
        controlled(Bench.founded("2,2,3,3,2"), 3, 13);
        controlled(Bench.founded("1,5,1,5,1"), 2, 10);
        Bench.promise(31, "OPTIONS, POOL aside");
        RoundHouse x = Bench.founded("5,4");
        x.pool(1000);
        x.grant(1, 500);
        controlled(x, 1, 1);
        Bench.promise(31, "there are no SHARES");
        Bench.refused("control of options", BoundaryHoldings::optionsAlone, RoundHouse::control, -2);
        Bench.refused("control of nobody", RoundHouse::new, RoundHouse::control, -2);
        x = Bench.founded("0,0,0");
        due("all are 0", x.control(), -2);
    }

    private static void led(RoundHouse x, int type, int holder, long part, long half) {
        due("leads", x.leads(type), holder);
        Bench.row(x, "leads", part, half);
    }

    /** Class 1 of busy() without a share. */
    private static RoundHouse without() {
        RoundHouse x = Bench.busy();
        x.cancels(1, 1, 100);
        x.cancels(2, 1, 50);
        return x;
    }

    private static void leads() {
        Bench.promise(32, "of equal ones the first");
        led(Bench.founded("1,1,1,1,1,1,1,1"), 0, 0, 125, 0);
        led(Bench.founded("0,2,0,2"), 0, 1, 500, 0);
        Bench.promise(32, "1 if they are more than half");
        led(Bench.founded("2,2"), 0, 0, 500, 0);
        led(Bench.founded("2,3"), 0, 1, 600, 1);
        led(Bench.founded("499,500"), 0, 1, 500, 1);
        led(Bench.founded("500,500"), 0, 0, 500, 0);
        led(Bench.founded("501,500"), 0, 0, 500, 1);
        led(Bench.founded("0,0,0,0,0,0,0,1"), 0, 7, 1000, 1);
        led(Bench.founded("1,1,1"), 0, 0, 333, 0);
        led(Bench.busy(), 1, 1, 666, 1);
        led(Bench.brim(), 0, 0, 999, 1);
        Bench.promise(32, "nobody has any");
        Bench.refused("leads of none", BoundaryHoldings::without, x -> x.leads(1), -2);
        Bench.refused("leads of nobody", RoundHouse::new, x -> x.leads(0), -2);
        Bench.refused("leads of options", BoundaryHoldings::optionsAlone, x -> x.leads(0), -2);
    }

    private static void blocked(RoundHouse x, int type, int many, int bits) {
        due("block", x.block(type), many);
        Bench.row(x, "block", bits);
    }

    private static void block() {
        Bench.promise(33, "more than half");
        blocked(Bench.founded("5,5"), 0, 2, 3);
        blocked(Bench.founded("5,6"), 0, 1, 2);
        blocked(Bench.founded("4,2,2"), 0, 2, 3);
        blocked(Bench.founded("5,2,2"), 0, 1, 1);
        blocked(Bench.busy(), 1, 1, 2);
        blocked(Bench.busy(), 2, 1, 16);
        Bench.promise(33, "those with most first, of like ones the lesser number");
        blocked(Bench.founded("1,1,1,1,1,1,1,1"), 0, 5, 31);
        blocked(Bench.founded("1,2,2,3"), 0, 2, 10);
        blocked(Bench.founded("2,2,3,3,2"), 0, 3, 13);
        Bench.promise(33, "nobody has any");
        Bench.refused("block of none", BoundaryHoldings::without, x -> x.block(1), -2);
        Bench.refused("block of nobody", RoundHouse::new, x -> x.block(0), -2);
    }

    private static void paid() {
        Bench.promise(34, "by CLASSES from 1 on");
        RoundHouse x = Bench.founded("5");
        x.full();
        due("no classes", x.paid(0), 0);
        Bench.row(x, "no classes");
        x = Bench.five();
        due("five", x.paid(1), 50);
        Bench.row(x, "five", 10, 10, 10, 10, 10);
        due("it gave none", x.paid(7), 0);
        Bench.row(x, "it gave none", 0, 0, 0, 0, 0);
        x.gives(1, 7);
        due("what it gave stays", x.paid(1), 50);
        due("who has it now gave none", x.paid(7), 0);
        x.cancels(7, 5, 10);
        due("what it gave stays", x.paid(1), 50);
        Bench.promise(34, "CLASSES that there are");
        x = Bench.five();
        x.undo();
        due("four", x.paid(1), 40);
        Bench.row(x, "four", 10, 10, 10, 10);
        x.end(0);
        x.founds();
        due("none", x.paid(1), 0);
        Bench.row(x, "none");
        Bench.promise(34, "all that one can give");
        x = Bench.founded("10000");
        for (int i = 1; i <= 5; i++) {
            due("round", Bench.round(x, "pre " + i * 100000000 + ":7=100000000"), 100000000);
        }
        due("paid", x.paid(7), 500000000);
        Bench.row(x, "paid", 100000000, 100000000, 100000000, 100000000, 100000000);
    }

    /** PRICE of the latest CLASS is 20001, and nobody has any of it. */
    private static RoundHouse worthTwo(int full) {
        RoundHouse x = Bench.founded("10000");
        Bench.round(x, "pre 20001:0=1");
        x.issues(0, full - 10000);
        return x;
    }

    private static void value() {
        Bench.promise(35, "cut, 2000000000 at most");
        RoundHouse x = worthTwo(999950002);
        due("one below", x.value(), 1999999999);
        Bench.row(x, "value", 1, 20002);
        due("2000000001 and more", worthTwo(999950003).value(), 2000000000);
        due("all that may be", worthTwo(BILLION).value(), 2000000000);
        x = Bench.founded("10000");
        Bench.round(x, "pre 20000:0=1");
        x.issues(0, BILLION - 10001);
        due("two below", x.value(), 1999999998);
        x.issues(0, 1);
        due("at the bound", x.value(), 2000000000);
        x = Bench.founded("10000");
        Bench.round(x, "pre 100000000:0=1");
        x.issues(0, BILLION - 10000);
        due("far too much", x.value(), 2000000000);
        x = Bench.founded("10000");
        Bench.round(x, "pre 1:0=1");
        due("cut", x.value(), 2);
        x.cancels(0, 1, 1);
        due("cut", x.value(), 1);
        Bench.promise(35, "that CLASS, its VALUE and M together");
        x = Bench.founded("999999");
        StringBuilder words = new StringBuilder("pre 999999999:");
        for (int h = 0; h < 8; h++) {
            words.append(h == 0 ? "" : ",").append(h).append("=100000000");
        }
        Bench.round(x, words.toString());
        x.value();
        Bench.row(x, "value", 1, 1799999999);
        x = Bench.five();
        due("the latest", x.value(), 1050);
        Bench.row(x, "the latest", 5, 1050);
        Bench.promise(35, "there is none but COMMON");
        Bench.refused("value", BoundaryHoldings::optionsAlone, RoundHouse::value, -2);
        Bench.refused("value", RoundHouse::new, RoundHouse::value, -2);
        x = Bench.founded("5");
        Bench.round(x, "pre 5:0=1");
        x.cancels(0, 0, 5);
        x.cancels(0, 1, 1);
        due("nobody has anything", x.value(), 0);
    }

    private static void most(RoundHouse x, int holder, long more, long own, long all) {
        due("majority", x.majority(holder), more);
        Bench.row(x, "majority", own, all);
    }

    private static void majority() {
        Bench.promise(36, "the fewest, so that its SHARES are more than half");
        most(new RoundHouse(), 0, 1, 1, 1);
        most(Bench.founded("5,5"), 0, 1, 6, 11);
        most(Bench.founded("6,5"), 0, 0, 6, 11);
        most(Bench.founded("5,6"), 0, 2, 7, 13);
        most(Bench.founded("5"), 0, 0, 5, 5);
        most(Bench.founded("5"), 7, 6, 6, 11);
        RoundHouse x = new RoundHouse();
        x.issues(0, BILLION);
        most(x, 0, 0, BILLION, BILLION);
        most(x, 1, 1000000001, 1000000001, 2000000001);
        Bench.promise(36, "OPTIONS, POOL aside");
        most(optionsAlone(), 2, 1, 1, 1);
        most(Bench.busy(), 3, 1401, 1401, 2801);
        Bench.promise(36, "by CONVERTED");
        most(Bench.halves(), 1, 2000, 2078, 4155);
    }

    private static void withFiveClasses() {
        Bench.promise(26, "with five CLASSES, OPTIONS and a POOL");
        RoundHouse x = Bench.fiveAndPool();
        stakeOf(x, 0, 908, 789, 858);
        stakeOf(x, 1, 49, 42, 46);
        stakeOf(x, 2, 100, 86, 95);
        stakeOf(x, 7, 0, 0, 0);
        Bench.promise(27, "with five CLASSES, OPTIONS and a POOL");
        due("full", x.full(), 1150);
        Bench.row(x, "full", 1000, 10, 10, 10, 10, 10, 7, 93);
        Bench.promise(28, "with five CLASSES, OPTIONS and a POOL");
        due("holders of common", x.type(0, 7), 5);
        due("holders of the last", x.type(5, 7), 3);
        x = Bench.founded("0,5");
        Bench.round(x, "pre 5:0=5");
        due("holders of what 0 paid for", x.type(1, 7), 1);
        x.gives(0, 2);
        due("holders of what 0 paid for", x.type(1, 7), 4);
    }

    private static void oneByOne() {
        RoundHouse x = Bench.founded("5,9");
        x.greatest();
        x.issues(0, 5);
        Bench.promise(30, "as it is now");
        due("greatest", x.greatest(), 0);
        Bench.promise(31, "as it is now");
        controlled(x, 1, 1);
        Bench.promise(37, "as it is now");
        x.issues(1, 5);
        swung(x, 0, 128, 0, 0, 0, 0, 0, 0);
        x.issues(0, 100);
        x.block(0);
        x.cancels(0, 0, 100);
        controlled(x, 1, 2);
        x.issues(0, 100);
        Bench.promise(32, "as it is now");
        led(x, 0, 0, 887, 1);
        Bench.promise(33, "as it is now");
        blocked(x, 0, 1, 1);
    }

    private static void swung(RoundHouse x, long... want) {
        for (int h = 0; h < 8; h++) {
            due("swing", x.swing(h), want[h]);
            Bench.row(x, "swing", want);
        }
    }

    private static void swing() {
        Bench.promise(37, "half of all or less, and more than half with this one");
        swung(new RoundHouse(), 0, 0, 0, 0, 0, 0, 0, 0);
        swung(optionsAlone(), 0, 0, 0, 0, 0, 0, 0, 0);
        swung(Bench.founded("1"), 128, 0, 0, 0, 0, 0, 0, 0);
        swung(Bench.founded("5,5"), 64, 64, 0, 0, 0, 0, 0, 0);
        swung(Bench.founded("6,5"), 128, 0, 0, 0, 0, 0, 0, 0);
        swung(Bench.founded("1,1,1,1,1,1,1,1"), 35, 35, 35, 35, 35, 35, 35, 35);
        // Half of 4 is not more than half: 2 wins with one of the others, and with both.
        swung(Bench.founded("2,1,1"), 96, 32, 32, 0, 0, 0, 0, 0);
        swung(Bench.founded("0,0,0,0,0,0,1,999999999"), 0, 0, 0, 0, 0, 0, 0, 128);
    }
}
