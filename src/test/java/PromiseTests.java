import java.util.NoSuchElementException;

/** For each promise of the document: ordinary inputs, the edges that it names, wrong inputs. */
public final class PromiseTests {
    private static int wrong = 0;
    private static int promise = 0;

    private static void due(String call, long got, long want) {
        if (got != want) {
            wrong++;
            System.out.println("promise " + promise + ": " + call + " answered " + got + ", due is " + want);
        }
    }

    /** Puts a text, whatever stood ahead of it. */
    private static RoundHouse text(RoundHouse x, String text) {
        x.end(0);
        int n = text.length();
        for (int i = 0; i < n; i += 4) {
            int v = 0;
            for (int k = i; k < i + 4; k++) {
                v = v << 8 | (k < n ? text.charAt(k) : 0);
            }
            x.sign(v);
        }
        x.end(n);
        return x;
    }

    private static RoundHouse founded(String numbers) {
        RoundHouse x = new RoundHouse();
        text(x, numbers).founds();
        return x;
    }

    private static int round(RoundHouse x, String text) {
        return text(x, text).round();
    }

    private static void row(RoundHouse x, String call, long... want) {
        due(call + ": numbers of the row", x.count(5), want.length);
        for (int i = 0; i < want.length && i < x.count(5); i++) {
            due(call + ": row(" + i + ")", x.row(i), want[i]);
        }
    }

    private static boolean hasNoNumber(RoundHouse x, int i) {
        try {
            x.row(i);
            return false;
        } catch (NoSuchElementException e) {
            return true;
        }
    }

    /** Common 600000, 400000; class 1: 500000 of holder 2 for 10000 each. */
    private static RoundHouse afterOneRound() {
        RoundHouse x = founded("600000,400000");
        round(x, "pre 1000000:2=500000");
        return x;
    }

    /** Five rounds, so that no sixth class can come. */
    private static RoundHouse afterFiveRounds() {
        RoundHouse x = founded("1000");
        for (int i = 0; i < 5; i++) {
            round(x, "pre 1000:1=10");
        }
        return x;
    }

    public static void main(String[] args) {
        newObject();
        texts();
        founding();
        issuing();
        poolAndOptions();
        selling();
        splitting();
        converting();
        terms();
        roundTexts();
        rounds();
        roundRefusals();
        playing();
        thoughts();
        tellings();
        dilution();
        sweeping();
        ratchetsAsked();
        holdings();
        controls();
        moneyAndValue();
        majorities();
        exits();
        exitsAlong();
        keeping();
        undoing();
        counting();
        System.out.println(wrong == 0 ? "all promises hold" : wrong + " answers are not as due");
        if (wrong != 0) {
            System.exit(1);
        }
    }

    private static void newObject() {
        promise = 1;
        RoundHouse x = new RoundHouse();
        due("NONE", RoundHouse.NONE, -1);
        for (int h = 0; h < 8; h++) {
            due("shares", x.shares(h, 0), 0);
            due("options", x.options(h), 0);
        }
        due("count(5)", x.count(5), 0);
        due("full", x.full(), 0);
        due("count(0)", x.count(0), 1);
        due("count(1)", x.count(1), 0);
        due("count(4)", x.count(4), 0);
        due("count(6)", x.count(6), 0);
        due("undo", x.undo(), -2);
    }

    private static void texts() {
        promise = 2;
        RoundHouse x = new RoundHouse();
        for (int i = 1; i <= 50; i++) {
            due("sign", x.sign(0x31323334), 4 * i);
        }
        due("sign beyond 200", x.sign(0x31323334), -1);
        due("count(6)", x.count(6), 200);
        x.end(197);
        due("sign beyond 200", x.sign(0x31323334), -1);
        due("count(6)", x.count(6), 197);
        x.end(196);
        due("sign", x.sign(-1), 200);
        x.end(0);
        x.sign(0x31323334);
        x.end(3);
        due("highest byte first", x.founds(), 123);
        x.sign(0xFF000000);
        due("a sign of 255", x.founds(), -21);

        promise = 3;
        x = new RoundHouse();
        due("end(0)", x.end(0) ? 1 : 0, 1);
        due("end(1)", x.end(1) ? 1 : 0, 0);
        x.sign(0x31323334);
        due("end(-1)", x.end(-1) ? 1 : 0, 0);
        due("end(5)", x.end(5) ? 1 : 0, 0);
        due("count(6)", x.count(6), 4);
        due("end(4)", x.end(4) ? 1 : 0, 1);
        due("end(2)", x.end(2) ? 1 : 0, 1);
        due("count(6)", x.count(6), 2);
        due("founds", x.founds(), 12);
    }

    private static void badFounds(String numbers, int p) {
        RoundHouse x = founded("5,6");
        due("founds of " + numbers, text(x, numbers).founds(), -21 - p);
        due("the text is empty", x.count(6), 0);
        due("nothing else", x.shares(1, 0), 6);
        due("no deed", x.count(4), 1);
    }

    private static void founding() {
        promise = 4;
        RoundHouse x = afterOneRound();
        x.pool(10);
        x.grant(3, 4);
        due("founds", text(x, "0,7,999999993").founds(), 1000000000);
        due("count(6)", x.count(6), 0);
        due("no classes", x.count(0), 1);
        due("no pool", x.count(1), 0);
        due("no options", x.count(2), 0);
        due("shares", x.shares(0, 0), 0);
        due("shares", x.shares(1, 0), 7);
        due("shares", x.shares(2, 0), 999999993);
        due("too much", text(x, "1,7,999999993").founds(), -9);
        due("count(6)", x.count(6), 0);
        due("shares", x.shares(0, 0), 0);
        due("none", text(x, "").founds(), 0);
        due("shares", x.shares(2, 0), 0);
        due("eight", text(x, "1,2,3,4,5,6,7,8").founds(), 36);
        due("shares", x.shares(7, 0), 8);
        badFounds("1,2,3,4,5,6,7,8,", 15);
        badFounds(",", 0);
        badFounds("1,", 2);
        badFounds("1,,", 2);
        badFounds("00", 1);
        badFounds("01", 1);
        badFounds("1,01", 3);
        badFounds("1234567890", 9);
        badFounds("1 ", 1);
        badFounds("-1", 0);
        badFounds("1;2", 1);
    }

    private static void issuing() {
        promise = 5;
        RoundHouse x = founded("5");
        due("issues", x.issues(7, 3), 8);
        due("shares", x.shares(7, 0), 3);
        due("issues", x.issues(0, 999999992), 1000000000);
        due("too much", x.issues(0, 1), -9);
        due("too much", x.issues(0, Integer.MAX_VALUE), -9);
        due("n", x.issues(0, 0), -1);
        due("n", x.issues(0, -5), -1);
        due("holder", x.issues(8, 1), -1);
        due("holder", x.issues(-1, 1), -1);
        due("deeds", x.count(4), 3);

        promise = 6;
        x = afterOneRound();
        due("cancels", x.cancels(2, 1, 1), 1499999);
        due("cancels", x.cancels(0, 0, 600000), 899999);
        due("shares", x.shares(2, 1), 499999);
        due("too many", x.cancels(0, 0, 1), -2);
        due("too many", x.cancels(2, 1, 500000), -2);
        due("n", x.cancels(2, 1, 0), -1);
        due("type", x.cancels(2, 2, 1), -1);
        due("type", x.cancels(2, -1, 1), -1);
        due("holder", x.cancels(8, 1, 1), -1);
        due("deeds", x.count(4), 4);
    }

    private static void poolAndOptions() {
        promise = 7;
        RoundHouse x = founded("1000");
        due("pool", x.pool(50), 0);
        due("pool", x.pool(999999000), 50);
        due("too much", x.pool(999999001), -9);
        due("n", x.pool(-1), -1);
        due("pool", x.pool(0), 999999000);
        due("the same is a deed, too", x.pool(0), 0);
        due("deeds", x.count(4), 5);

        promise = 8;
        x.pool(50);
        due("grant", x.grant(3, 20), 30);
        due("options", x.options(3), 20);
        due("grant", x.grant(4, 30), 0);
        due("not so many", x.grant(4, 1), -2);
        due("n", x.grant(4, 0), -1);
        due("holder", x.grant(8, 1), -1);
        due("full", x.full(), 1050);

        promise = 9;
        due("exercise", x.exercise(3, 5), 15);
        due("shares", x.shares(3, 0), 5);
        due("exercise", x.exercise(3, 15), 0);
        due("not so many", x.exercise(3, 1), -2);
        due("n", x.exercise(3, 0), -1);
        due("holder", x.exercise(-1, 1), -1);
        due("full", x.full(), 1050);

        promise = 10;
        due("lapses", x.lapses(4, 10), 10);
        due("options", x.options(4), 20);
        due("not so many", x.lapses(4, 21), -2);
        due("n", x.lapses(4, 0), -1);
        due("holder", x.lapses(8, 1), -1);
        due("lapses", x.lapses(4, 20), 30);
        due("full", x.full(), 1050);
    }

    /** A class of which shares of one and the same holder convert better than parted ones. */
    private static RoundHouse withHalves() {
        RoundHouse x = founded("1000,0,1000");
        round(x, "pre 2000 full:1=101");
        x.sells(1, 3, 1, 50);
        // P 6663, 6508, 6499, 6499: 51 and 50 convert to 78 and 76, but 101 together to 155.
        round(x, "pre 1400 late:4=1");
        return x;
    }

    private static void selling() {
        promise = 11;
        RoundHouse x = afterOneRound();
        due("sells", x.sells(2, 0, 1, 200000), 300000);
        due("shares", x.shares(0, 1), 200000);
        due("sells", x.sells(0, 7, 0, 600000), 0);
        due("they are one", x.sells(2, 2, 1, 1), -2);
        due("not so many", x.sells(2, 0, 1, 300001), -2);
        due("n", x.sells(2, 0, 1, 0), -1);
        due("to", x.sells(2, 8, 1, 1), -1);
        due("holder", x.sells(8, 2, 1, 1), -1);
        due("type", x.sells(2, 0, 2, 1), -1);
        due("deeds", x.count(4), 4);

        x = withHalves();
        due("conv", x.type(1, 2), 6499);
        due("stake", x.stake(1), 78);
        due("stake", x.stake(3), 76);
        int full = x.full();
        x.pool(1000000000 - full);
        due("full", x.full(), 1000000000);
        due("too much", x.sells(3, 1, 1, 50), -9);
        due("shares stay", x.shares(3, 1), 50);

        promise = 12;
        due("too much", x.gives(3, 1), -9);
        due("shares stay", x.shares(3, 1), 50);
        x.pool(100);
        x.grant(3, 40);
        due("gives", x.gives(3, 1), 195);
        due("shares", x.shares(1, 1), 101);
        due("options", x.options(1), 40);
        due("nothing left", x.shares(3, 1), 0);
        due("nothing left", x.options(3), 0);
        due("it has none", x.gives(3, 1), -2);
        due("they are one", x.gives(1, 1), -2);
        due("to", x.gives(1, 8), -1);
        due("holder", x.gives(-1, 1), -1);
        due("one that is none", x.gives(8, 8), -1);
    }

    private static void splitting() {
        promise = 13;
        RoundHouse x = afterOneRound();
        x.pool(7);
        x.grant(1, 3);
        due("splits", x.splits(3), 4500021);
        due("shares", x.shares(0, 0), 1800000);
        due("shares", x.shares(2, 1), 1500000);
        due("options", x.options(1), 9);
        due("pool", x.count(1), 12);
        due("price", x.type(1, 1), 3333);
        due("conv", x.type(1, 2), 3333);
        due("k", x.splits(1), -1);
        due("k", x.splits(11), -1);
        due("splits", x.splits(10), 45000210);
        due("splits", x.splits(10), 450002100);
        due("too much", x.splits(3), -9);
        due("price stays", x.type(1, 1), 33);
        due("splits", x.splits(2), 900004200);
        x = founded("1000");
        round(x, "pre 1:1=1");
        due("price", x.type(1, 1), 10);
        x.splits(10);
        x.splits(10);
        due("price 1 at least", x.type(1, 1), 1);
        due("conv 1 at least", x.type(1, 2), 1);
    }

    private static void converting() {
        promise = 14;
        RoundHouse x = withHalves();
        due("converts", x.converts(1, 1, 1), 1);
        due("shares", x.shares(1, 0), 1);
        due("shares", x.shares(1, 1), 50);
        due("converts", x.converts(3, 1, 50), 76);
        due("shares", x.shares(3, 0), 76);
        due("not so many", x.converts(3, 1, 1), -2);
        due("common", x.converts(0, 0, 1), -1);
        due("n", x.converts(1, 1, 0), -1);
        due("type", x.converts(1, 3, 1), -1);
        due("holder", x.converts(8, 1, 1), -1);
    }

    private static void terms() {
        promise = 15;
        RoundHouse x = afterOneRound();
        due("ratchet", x.term(1, 0, 3), 0);
        due("ratchet", x.term(1, 0, 0), 3);
        due("pref", x.term(1, 1, 50), 10);
        due("pref", x.term(1, 1, 0), 50);
        due("part", x.term(1, 2, 1), 0);
        due("play", x.term(1, 3, 1), 0);
        due("type", x.type(1, 5), 1);
        due("type", x.type(1, 6), 1);
        due("deeds", x.count(4), 8);
        due("ratchet", x.term(1, 0, 4), -1);
        due("pref", x.term(1, 1, 51), -1);
        due("part", x.term(1, 2, 2), -1);
        due("play", x.term(1, 3, 2), -1);
        due("below 0", x.term(1, 0, -1), -1);
        due("what", x.term(1, 4, 0), -1);
        due("what", x.term(1, -1, 0), -1);
        due("common", x.term(0, 0, 0), -1);
        due("type", x.term(2, 0, 0), -1);
        due("deeds", x.count(4), 8);
    }

    private static void badRound(String words, int p) {
        RoundHouse x = founded("1000");
        x.full();
        due("round of " + words, text(x, words).round(), -21 - p);
        due("the text is empty", x.count(6), 0);
        due("the row stays", x.count(5), 3);
        due("thought of " + words, text(x, words).thought(), -21 - p);
        due("diluted of " + words, text(x, words).diluted(-1), -21 - p);
        due("threatens of " + words, text(x, words).threatens(), -21 - p);
        due("sweep of " + words, text(x, words).sweep(0), -21 - p);
        due("ratchets of " + words, text(x, words).ratchets(), -21 - p);
        due("the text is empty", x.count(6), 0);
        due("no deed", x.count(4), 1);
    }

    private static void roundTexts() {
        promise = 16;
        badRound("", 0);
        badRound("pre", 3);
        badRound("pre ", 4);
        badRound("pro 5:0=1", 2);
        badRound("pre  5:0=1", 4);
        badRound("pre 1000000000:0=1", 13);
        badRound("pre 9999999990:0=1", 13);
        badRound("pre 5 ", 6);
        badRound("pre 5  pool 5:0=1", 6);
        badRound("pre 5 pol 5:0=1", 8);
        badRound("pre 5 pool:0=1", 10);
        badRound("pre 5 pool x:0=1", 11);
        badRound("pre 5 pool 00:0=1", 12);
        badRound("pre 5 pool 600:0=1", 13);
        badRound("pre 5 pool 501:0=1", 13);
        badRound("pre 5 pool 5000:0=1", 14);
        badRound("pre 5 pool 5 pool 5:0=1", 14);
        badRound("pre 5 late late:0=1", 11);
        badRound("pre 5 full broad:0=1", 11);
        badRound("pre 5 full late:0=1", 11);
        badRound("pre 5 narrow full:0=1", 13);
        badRound("pre 5 pref 51:0=1", 12);
        badRound("pre 5 pref 60:0=1", 12);
        badRound("pre 5 pref 5 pref 5:0=1", 14);
        badRound("pre 5 part part:0=1", 12);
        badRound("pre 5 play part:0=1", 10);
        badRound("pre 5 fully:0=1", 10);
        badRound("pre 5 nar", 9);
        badRound("pre 5:0", 7);
        badRound("pre 5:0=", 8);
        badRound("pre 5:00=1", 7);
        badRound("pre 5:0=01", 8);
        badRound("pre 5:0=100000001", 16);
        badRound("pre 5:0=200000000", 16);
        badRound("pre 5:0=1,", 10);
        badRound("pre 5:0=1;", 9);
        badRound("pre 5:3=1,2=1", 10);
        badRound("pre 5:3=1,9=1", 10);
        badRound("pre 5:3=1,3=1", 10);
        badRound("pre 5:8=1", 6);
        badRound("pre 5:7=1,", 9);
        badRound("pre 5:0=1 ", 9);
    }

    private static void rounds() {
        promise = 16;
        RoundHouse x = founded("600000,400000");
        due("round", round(x, "pre 999999 pool 0 late narrow pref 0 part play:0=100000,7=1"), 9999);
        row(x, "round", 100011, 1, 1100011);
        due("ratchet", x.type(1, 3), 3);
        due("pref", x.type(1, 4), 0);
        due("part", x.type(1, 5), 1);
        due("play", x.type(1, 6), 1);
        due("shares", x.shares(0, 1), 100010);
        due("shares", x.shares(7, 1), 1);
        due("price", x.type(1, 1), 9999);
        due("conv", x.type(1, 2), 9999);
        due("the text is empty", x.count(6), 0);
        due("a deed", x.count(4), 2);

        // Pool ahead of the money: turn by turn the price falls as the pool grows.
        x = founded("900");
        x.pool(100);
        due("pool that is enough", round(x, "pre 1000 pool 50:1=1000"), 10000);
        row(x, "round", 1000, 1, 2000);
        due("pool", x.count(1), 100);
        due("pool late", round(x, "pre 1900 pool 200 late:1=100"), 10000);
        // Rest 1900 and 100: the least pool of which 1000 x >= 200 (2000 + x) is 500.
        row(x, "round", 100, 2, 2500);
        due("pool", x.count(1), 500);

        // A full ratchet goes round with the price till it stands.
        x = founded("1000");
        round(x, "pre 1000 full:1=1000");
        due("it falls to nothing", round(x, "pre 1000:2=100"), -3);
        x.pool(500);
        // P is 5000000 by FULL: 2000, 3500, 4300, .. till 1667 stays: 1000 + 5998 + 500.
        due("full", round(x, "pre 1250:2=100"), 1667);
        due("conv", x.type(1, 2), 1667);
        due("price", x.type(1, 1), 10000);
        due("full", x.told(2, 4), 8097);
        x = founded("1000");
        round(x, "pre 1000 broad:1=1000");
        // A 2000, M 100: P 5000, N 200, CONV (20000000 + 1000000) / 2200 = 9545; then FULL 2047,
        // P 4885, N 204, CONV 21000000 / 2204 = 9528; then FULL 2049, P 4880, and so it stays.
        due("broad", round(x, "pre 1000:2=100"), 4880);
        row(x, "broad", 204, 3, 2253);
        due("conv", x.type(1, 2), 9528);
        due("price", x.type(1, 1), 10000);
        x = founded("1000");
        x.pool(500);
        round(x, "pre 1500 narrow:1=1000");
        // Narrow: A is 2000 without the pool: P 5000, CONV 9545, P 4907, CONV 9532, P 4903.
        due("narrow", round(x, "pre 1250:2=100"), 4903);
        due("conv", x.type(1, 2), 9532);
        // No ratchet moves where the price is not below the class's own.
        x = founded("1000");
        round(x, "pre 1000 full:1=1000");
        due("up", round(x, "pre 2000:2=100"), 10000);
        due("conv", x.type(1, 2), 10000);
    }

    private static void roundRefusals() {
        promise = 16;
        RoundHouse x = afterFiveRounds();
        due("classes", x.count(0), 6);
        x.full();
        due("five classes", round(x, "pre 1:0=1"), -2);
        due("the row stays", x.count(5), 8);
        due("a bad sign comes first", round(x, "pre 1:0=0"), -29);
        x = new RoundHouse();
        due("full is 0", round(x, "pre 5:0=1"), -3);
        x.pool(10);
        due("full is 0 without the pool", round(x, "pre 5 late:0=1"), -3);
        due("with the pool", round(x, "pre 5:0=1"), 5000);
        x = founded("1000000");
        due("price 0", round(x, "pre 99:0=1"), -3);
        due("price 1", round(x, "pre 100:0=1"), 1);
        x = founded("1");
        due("price above its bound", round(x, "pre 10001:0=1"), -3);
        due("price at its bound", round(x, "pre 10000:0=10000"), 100000000);
        x = founded("999999999");
        due("too much", round(x, "pre 999999999:0=2"), -9);
        due("just enough", round(x, "pre 999999999:0=1"), 10000);
        x = founded("999999999");
        due("too much with its pool", round(x, "pre 999999999 pool 1:0=1"), -9);
        // By turns half of all is less and less worth, till there are too many.
        x = founded("1000000");
        due("too much at last", round(x, "pre 1000000 pool 500:0=1000000"), -9);
        // P is 100000000 by 2, by 3, by 4 ..: far from 0 at the 200th turn.
        x = founded("1000");
        round(x, "pre 10000000 full:1=10000000");
        due("price", x.type(1, 1), 100000000);
        due("200 turns", round(x, "pre 10000000:2=1"), -4);
        due("nothing changes", x.type(1, 2), 100000000);
        due("the 201st would be the last", round(x, "pre 10379001:2=1"), -4);
        due("the 200th is the last", text(x, "pre 10381001:2=1").thought(), 3813740);
        due("turns", x.row(1), 200);
        due("no class", x.count(0), 2);
    }

    private static RoundHouse withPlay() {
        RoundHouse x = founded("1000");
        round(x, "pre 1000 play:1=300,2=300,3=400");
        return x;
    }

    private static void playing() {
        promise = 16;
        RoundHouse x = withPlay();
        // Of 100 holder 1 must pay 30, 2: 30, 3: 40.
        due("round", round(x, "pre 2000:1=30,2=29,4=41"), 10000);
        due("it paid", x.shares(1, 1), 300);
        due("it paid too little", x.shares(2, 1), 0);
        due("as common", x.shares(2, 0), 300);
        due("it paid nothing", x.shares(3, 1), 0);
        due("as common", x.shares(3, 0), 400);

        promise = 20;
        x = withPlay();
        due("threatens", text(x, "pre 2000:1=30,2=29,4=41").threatens(), 12);
        row(x, "threatens", 700);
        due("count(6)", x.count(6), 0);
        due("in thought", x.shares(3, 1), 400);
        due("cut", text(x, "pre 2000:1=3,2=3,4=5").threatens(), 8);
        x.term(1, 3, 0);
        due("without play", text(x, "pre 2000:4=100").threatens(), 0);
        row(x, "threatens", 0);
        x = new RoundHouse();
        due("whatever comes of it", text(x, "pre 1:4=100").threatens(), 0);
        row(x, "threatens");
        x = afterFiveRounds();
        x.term(5, 3, 1);
        due("five classes", text(x, "pre 1:4=100").threatens(), 2);
        row(x, "threatens", 0, 0, 0, 0, x.shares(1, 5));
    }

    private static void thoughts() {
        promise = 17;
        RoundHouse x = founded("1000");
        round(x, "pre 1000 broad:1=1000");
        due("thought", text(x, "pre 1000:2=100").thought(), 4880);
        row(x, "thought", 204, 3, 2253, 0, 9528, 4880);
        due("in thought", x.count(0), 2);
        due("conv", x.type(1, 2), 10000);
        due("no deed", x.count(4), 2);
        due("count(6)", x.count(6), 0);
        x = founded("900");
        x.pool(100);
        due("thought", text(x, "pre 900 pool 500 late:1=100").thought(), 10000);
        row(x, "thought", 100, 2, 2000, 1000, 10000);
        due("pool stays", x.count(1), 100);
        due("full is 0", text(new RoundHouse(), "pre 5:0=1").thought(), -3);
        due("five classes", text(afterFiveRounds(), "pre 5:0=1").thought(), -2);
    }

    private static void tellings() {
        promise = 18;
        RoundHouse x = founded("900");
        x.pool(100);
        round(x, "pre 900 pool 500 late:1=100,2=50");
        due("value", x.told(1, 0), 900);
        due("money", x.told(1, 1), 150);
        due("new ones", x.told(1, 2), 150);
        due("turns", x.told(1, 3), 2);
        due("full", x.told(1, 4), 2100);
        x.splits(2);
        due("full behind it", x.told(1, 4), 2100);
        due("what", x.told(1, 5), -1);
        due("what", x.told(1, -1), -1);
        due("common", x.told(0, 0), -1);
        due("type", x.told(2, 0), -1);
    }

    private static void dilution() {
        promise = 19;
        RoundHouse x = founded("600,300");
        x.pool(100);
        due("diluted", text(x, "pre 1000:1=500").diluted(0), 400);
        row(x, "diluted", 600, 600);
        due("diluted", text(x, "pre 1000:1=500").diluted(1), 533);
        row(x, "diluted", 300, 800);
        due("in thought", x.count(0), 1);
        due("holder", text(x, "pre 1000:1=500").diluted(8), -1);
        due("count(6)", x.count(6), 0);
        due("holder first", text(afterFiveRounds(), "pre 1:1=5").diluted(8), -1);
        due("five classes", text(afterFiveRounds(), "pre 1:1=5").diluted(0), -2);
        due("full is 0", text(new RoundHouse(), "pre 1:1=5").diluted(0), -3);
        due("too much", text(x, "pre 1:1=100000000").diluted(0), -9);
    }

    private static void sweeping() {
        promise = 21;
        RoundHouse x = founded("1000000");
        due("sweep", text(x, "pre 90:0=1").sweep(10), 7);
        row(x, "sweep", -3, 1, 1, 1, 1, 1, 1, 1);
        due("sweep", text(x, "pre 500000000:0=1").sweep(100000000), 6);
        row(x, "sweep", 5000000, 6000000, 7000000, 8000000, 9000000, 10000000, -3, -3);
        due("in thought", x.count(0), 1);
        due("d", text(x, "pre 90:0=1").sweep(0), -1);
        due("d", text(x, "pre 90:0=1").sweep(100000001), -1);
        due("count(6)", x.count(6), 0);
        due("the row stays", x.row(0), 5000000);
        x = afterFiveRounds();
        due("five classes", text(x, "pre 999999999:0=1").sweep(10), 0);
        row(x, "five classes", -2, -2, -2, -2, -2, -2, -2, -2);
        x = founded("999999999");
        due("too much", text(x, "pre 999999997:0=2").sweep(1), 0);
        row(x, "too much", -9, -9, -9, -9, -3, -3, -3, -3);
    }

    private static void ratchetsAsked() {
        promise = 22;
        RoundHouse x = founded("1000");
        x.pool(500);
        round(x, "pre 1500:1=1000");
        due("ratchets", text(x, "pre 1250:2=100").ratchets(), 4);
        row(x, "ratchets", 5000, 1667, 4923, 4903);
        due("in thought", x.type(1, 3), 0);
        due("conv", x.type(1, 2), 10000);
        due("alike", text(x, "pre 5000:2=100").ratchets(), 1);
        row(x, "alike", 20000, 20000, 20000, 20000);
        due("count(6)", x.count(6), 0);
        x = new RoundHouse();
        due("none", text(x, "pre 5000:2=100").ratchets(), 0);
        row(x, "none", -3, -3, -3, -3);
        x = afterFiveRounds();
        due("five classes", text(x, "pre 5000:2=100").ratchets(), 0);
        row(x, "five classes", -2, -2, -2, -2);

        promise = 23;
        x = founded("1000");
        x.pool(1000);
        x.grant(3, 200);
        round(x, "pre 2000:1=1000");
        due("none", x.ratchet(1, 1, 1, 1), 10000);
        x.term(1, 0, 1);
        due("full", x.ratchet(1, 9999, 1, 1), 9999);
        due("not above", x.ratchet(1, 10000, 100, 1), 10000);
        x.term(1, 0, 2);
        // A is 3000: (30000000 + 500000) / 3100.
        due("broad", x.ratchet(1, 5000, 100, 50), 9838);
        due("not above", x.ratchet(1, 10000, 100, 50), 10000);
        due("at most as it was", x.ratchet(1, 5000, 1, 50), 10000);
        x.term(1, 0, 3);
        // A is 2000: (20000000 + 500000) / 2100.
        due("narrow", x.ratchet(1, 5000, 100, 50), 9761);
        due("p", x.ratchet(1, 0, 1, 1), -1);
        due("p", x.ratchet(1, 100000001, 1, 1), -1);
        due("n", x.ratchet(1, 1, 0, 1), -1);
        due("n", x.ratchet(1, 1, 100000001, 1), -1);
        due("m", x.ratchet(1, 1, 1, 0), -1);
        due("m", x.ratchet(1, 1, 1, 800000001), -1);
        due("greatest", x.ratchet(1, 1, 100000000, 800000000), 10000);
        due("least", x.ratchet(1, 1, 100000000, 1), 1);
        due("common", x.ratchet(0, 1, 1, 1), -1);
        due("type", x.ratchet(2, 1, 1, 1), -1);
    }

    private static void holdings() {
        promise = 24;
        RoundHouse x = afterOneRound();
        x.pool(1000);
        x.grant(1, 300);
        due("shares", x.shares(0, 0), 600000);
        due("shares", x.shares(2, 1), 500000);
        due("shares", x.shares(2, 0), 0);
        due("type", x.shares(2, 2), -1);
        due("type", x.shares(2, -1), -1);
        due("holder", x.shares(8, 0), -1);
        due("holder", x.shares(-1, 0), -1);

        promise = 25;
        due("options", x.options(1), 300);
        due("options", x.options(0), 0);
        due("holder", x.options(8), -1);
        due("holder", x.options(-1), -1);

        promise = 26;
        due("stake", x.stake(1), 400300);
        row(x, "stake", 266, 266);
        x.issues(1, 200000);
        due("stake", x.stake(1), 600300);
        row(x, "stake", 352, 352);
        x.pool(500000);
        due("stake", x.stake(1), 600300);
        row(x, "stake", 272, 352);
        due("holder", x.stake(8), -1);
        row(x, "the row stays", 272, 352);
        RoundHouse y = new RoundHouse();
        due("nobody has anything", y.stake(0), 0);
        row(y, "0 of 0", 0, 0);
        y = withHalves();
        due("converted class by class", y.stake(1), 78);

        promise = 27;
        due("full", x.full(), 2200300);
        row(x, "full", 1200000, 500000, 300, 500000);
        y = withHalves();
        due("full", y.full(), 2155);
        row(y, "full", 2000, 154, 1, 0, 0);

        promise = 28;
        due("all shares", x.type(0, 0), 1200000);
        due("all shares", x.type(1, 0), 500000);
        due("holders", x.type(0, 7), 3);
        due("holders", x.type(1, 7), 4);
        due("price", y.type(1, 1), 10000);
        due("conv", y.type(1, 2), 6499);
        due("ratchet", y.type(1, 3), 1);
        due("pref", y.type(1, 4), 10);
        for (int what = 1; what <= 6; what++) {
            due("common", x.type(0, what), -1);
        }
        due("what", x.type(1, 8), -1);
        due("what", x.type(1, -1), -1);
        due("type", x.type(2, 0), -1);

        promise = 29;
        x = founded("1,2");
        due("needs", x.needs(0, 3), 1);
        due("needs upwards", x.needs(0, 4), 2);
        due("needs", x.needs(1, 1000000000), 666666667);
        due("needs", x.needs(2, 5), 0);
        due("n", x.needs(0, 0), -1);
        due("n", x.needs(0, 1000000001), -1);
        due("holder", x.needs(8, 1), -1);
        due("0 of 0", new RoundHouse().needs(0, 9), 0);
    }

    private static void controls() {
        promise = 30;
        RoundHouse x = founded("5,9,0,9,1");
        x.pool(6);
        x.grant(4, 6);
        due("greatest", x.greatest(), 1);
        row(x, "greatest", 1, 3, 4, 0, 2, 5, 6, 7);

        promise = 31;
        x = founded("4,3,3,4");
        due("control", x.control(), 2);
        row(x, "control", 9);
        x.pool(1000);
        x.grant(1, 500);
        due("options aside", x.control(), 2);
        row(x, "options aside", 9);
        x = founded("1,1,2,1,1");
        due("of like ones the least bits", x.control(), 3);
        row(x, "least bits", 7);
        x = founded("5,5");
        due("half is not enough", x.control(), 2);
        x = new RoundHouse();
        x.pool(5);
        x.grant(0, 5);
        due("no shares", x.control(), -2);
        x = withHalves();
        due("by converted", x.control(), 2);
        row(x, "by converted", 5);

        promise = 32;
        x = founded("3,4,4");
        due("leads", x.leads(0), 1);
        row(x, "leads", 363, 0);
        due("type", x.leads(1), -1);
        x = founded("4,4");
        due("leads", x.leads(0), 0);
        row(x, "half is not more than half", 500, 0);
        x.issues(1, 1);
        due("leads", x.leads(0), 1);
        row(x, "more than half", 555, 1);
        due("nobody has any", new RoundHouse().leads(0), -2);
        due("type", x.leads(-1), -1);

        promise = 33;
        x = founded("3,4,4,1");
        due("block", x.block(0), 2);
        row(x, "block", 6);
        x = founded("4,4");
        due("block", x.block(0), 2);
        row(x, "block", 3);
        due("type", x.block(1), -1);
        due("nobody has any", new RoundHouse().block(0), -2);
        x = afterOneRound();
        x.sells(2, 6, 1, 250000);
        due("block", x.block(1), 2);
        row(x, "block", 68);
    }

    private static void moneyAndValue() {
        promise = 34;
        RoundHouse x = afterOneRound();
        round(x, "pre 1500000:2=7,4=9");
        due("paid", x.paid(2), 500007);
        row(x, "paid", 500000, 7);
        due("paid", x.paid(4), 9);
        row(x, "paid", 0, 9);
        x.gives(2, 4);
        due("it gave it", x.paid(2), 500007);
        due("holder", x.paid(8), -1);
        x.undo();
        x.undo();
        due("of classes that there are", x.paid(2), 500000);
        row(x, "paid", 500000);
        text(x, "5").founds();
        due("of classes that there are", x.paid(2), 0);
        row(x, "paid");

        promise = 35;
        due("no class", x.value(), -2);
        x = founded("1000");
        round(x, "pre 1234:1=100");
        due("price", x.type(1, 1), 12340);
        due("value", x.value(), 1333);
        row(x, "value", 1, 1334);
        round(x, "pre 2000:1=50");
        due("price", x.type(2, 1), 18501);
        due("value", x.value(), 2049);
        row(x, "value", 2, 2050);
        x = founded("1");
        round(x, "pre 10000:0=1");
        x.issues(0, 199999);
        due("value", x.value(), 2000000000);
        x.issues(0, 199999);
        due("at most", x.value(), 2000000000);
    }

    private static void majorities() {
        promise = 36;
        RoundHouse x = founded("10,5,4");
        x.pool(100);
        x.grant(1, 100);
        due("majority", x.majority(0), 0);
        row(x, "majority", 10, 19);
        due("majority", x.majority(1), 10);
        row(x, "majority", 15, 29);
        due("majority", x.majority(7), 20);
        row(x, "majority", 20, 39);
        due("holder", x.majority(8), -1);
        x = founded("5,5");
        due("half is not enough", x.majority(0), 1);
        row(x, "majority", 6, 11);

        promise = 37;
        x = founded("3,2,2");
        // Two of three win: each swings with exactly one of the others; 32 sets of the five that have none.
        due("swing", x.swing(0), 64);
        row(x, "swing", 64, 64, 64, 0, 0, 0, 0, 0);
        due("swing", x.swing(7), 0);
        x = founded("2,2");
        due("half or less", x.swing(0), 64);
        row(x, "swing", 64, 64, 0, 0, 0, 0, 0, 0);
        x = founded("5,2,2");
        due("swing", x.swing(0), 128);
        row(x, "swing", 128, 0, 0, 0, 0, 0, 0, 0);
        due("nobody", new RoundHouse().swing(0), 0);
        due("holder", x.swing(8), -1);
    }

    /** Common 1000 of 0, class 1: 1000 of 1, class 2: 1000 of 2 (with part), 500 options of 3. */
    private static RoundHouse forSale() {
        RoundHouse x = founded("1000");
        x.pool(1000);
        x.grant(3, 500);
        round(x, "pre 2000:1=1000");
        round(x, "pre 3000 pref 20 part:2=1000");
        return x;
    }

    private static void exits() {
        promise = 38;
        RoundHouse x = forSale();
        due("exit", x.exit(1500), 0);
        row(x, "the last class first", 0, 0, 1500);
        due("exit", x.exit(2500), 0);
        row(x, "then the one ahead", 0, 500, 2000);
        due("exit", x.exit(5500), 1000);
        row(x, "with part, as much as converted", 0, 1000, 3000);
        due("exit", x.exit(5504), 1001);
        row(x, "converting brings 1001", 2, 1001, 3001);
        due("exit", x.exit(9000), 2000);
        row(x, "converting", 2, 2000, 4000);
        due("s", x.exit(-1), -1);
        due("s", x.exit(1000000001), -1);
        row(x, "the row stays", 2, 2000, 4000);
        due("exit", x.exit(0), 0);
        row(x, "of nothing", 0, 0, 0);
        due("nobody", new RoundHouse().exit(1000000000), 0);

        promise = 39;
        due("gets", x.gets(2, 9000), 4000);
        row(x, "gets", 2000, 2000);
        due("options", x.gets(3, 9000), 1000);
        row(x, "gets", 0, 1000);
        due("gets", x.gets(1, 2500), 500);
        row(x, "gets", 500, 0);
        due("gets", x.gets(1, 9000), 2000);
        row(x, "gets", 0, 2000);
        due("s", x.gets(1, -1), -1);
        due("s", x.gets(1, 1000000001), -1);
        due("holder", x.gets(8, 1), -1);

        promise = 40;
        due("over", x.over(9000), 0);
        row(x, "over", 2000, 2000, 4000, 1000, 0, 0, 0, 0);
        due("over", x.over(9002), 2);
        RoundHouse y = founded("1,1,1");
        due("cut", y.over(5), 2);
        row(y, "over", 1, 1, 1, 0, 0, 0, 0, 0);
        due("nobody is there", new RoundHouse().over(77), 77);
        due("s", y.over(-1), -1);
        due("s", y.over(1000000001), -1);

        promise = 41;
        due("worth", x.worth(2, 9000), 40000);
        due("worth", x.worth(1, 2500), 5000);
        due("worth", x.worth(0, 9000), 20000);
        due("worth", y.worth(0, 1), 3333);
        due("at most", founded("1").worth(0, 200001), 2000000000);
        due("nobody has any", new RoundHouse().worth(0, 1), -2);
        due("type first", new RoundHouse().worth(1, 1), -1);
        due("s first", new RoundHouse().worth(0, -1), -1);
        due("s", x.worth(0, 1000000001), -1);
    }

    private static void exitsAlong() {
        promise = 42;
        RoundHouse x = forSale();
        due("curve", x.curve(1, 500), 500 + 1000 + 1000 + 1000);
        row(x, "curve", 0, 0, 0, 0, 500, 1000, 1000, 1000);
        // Each is 2000 and two sevenths of what is left, cut: 1285725714 less the cuts.
        due("curve", x.curve(2, 125000000), 1285725711L);
        due("d", x.curve(1, 0), -1);
        due("d", x.curve(1, 125000001), -1);
        due("holder", x.curve(8, 1), -1);

        promise = 43;
        due("stage", x.stage(1500), 0);
        row(x, "stage", 1500);
        due("stage", x.stage(2500), 4);
        row(x, "stage", 500);
        due("stage", x.stage(3000), 6);
        row(x, "stage", 0);
        due("stage", x.stage(9000), 4);
        row(x, "those of Q do not", 0);
        x.term(1, 1, 0);
        due("one of 0 is whole", x.stage(0), 2);
        row(x, "stage", 2000);
        due("s", x.stage(-1), -1);
        due("s", x.stage(1000000001), -1);
        RoundHouse y = founded("10000");
        round(y, "pre 100000000 pref 50:0=100000000");
        round(y, "pre 200000000 pref 50:0=100000000");
        round(y, "pre 300000000 pref 50:0=100000000");
        round(y, "pre 400000000 pref 50:0=100000000");
        round(y, "pre 500000000 pref 50:0=100000000");
        due("stage", y.stage(0), 0);
        row(y, "at most", 2000000000);

        promise = 44;
        x = forSale();
        due("reaches", x.reaches(1, 1, 100), 2100);
        due("reaches", x.reaches(1, 0, 100), 0);
        due("reaches", x.reaches(2, 3000, 1000), 6000);
        due("at the last step", founded("1").reaches(0, 100, 1), 100);
        due("by none", founded("1").reaches(0, 101, 1), -2);
        due("x", x.reaches(1, -1, 1), -1);
        due("d", x.reaches(1, 0, 0), -1);
        due("d", x.reaches(1, 0, 1000001), -1);
        due("holder", x.reaches(8, 0, 1), -1);
        due("greatest d", founded("1").reaches(0, 100000000, 1000000), 100000000);

        promise = 45;
        due("multiple", x.multiple(2, 9000), 400);
        due("multiple", x.multiple(1, 2999), 99);
        due("it gave none", x.multiple(0, 9000), -2);
        due("s first", x.multiple(0, -1), -1);
        due("s", x.multiple(2, 1000000001), -1);
        due("holder", x.multiple(8, 0), -1);
        y = founded("10000000");
        round(y, "pre 10000000:0=1");
        due("at most", y.multiple(0, 1000000000), 2000000000);

        promise = 46;
        due("preference", x.preference(2), 2000);
        row(x, "preference", 2000);
        due("preference", x.preference(1), 1000);
        row(x, "from the last one down", 3000);
        due("common", x.preference(0), -1);
        due("type", x.preference(3), -1);
        y = founded("1000");
        round(y, "pre 1000000 pref 50:0=100000000");
        due("preference", y.preference(1), 500000000);
        y.splits(10);
        y.term(1, 1, 50);
        round(y, "pre 100000000 pref 50:0=100000000");
        due("in all", y.preference(1), 500000000);
        row(y, "in all", 999999995L);

        promise = 47;
        due("flips", x.flips(1, 1), -2);
        due("flips", x.flips(1, 100), 5600);
        y = founded("1000");
        round(y, "pre 1000:1=995");
        due("at the last step", y.flips(1, 20), 2000);
        due("beyond the last step", y.flips(1, 19), -2);
        due("never with part", x.flips(2, 1000000), -2);
        due("d", x.flips(1, 0), -1);
        due("d", x.flips(1, 1000001), -1);
        due("common", x.flips(0, 1), -1);
        due("type", x.flips(3, 1), -1);
    }

    private static void keeping() {
        promise = 48;
        RoundHouse x = afterOneRound();
        due("keeps", x.keeps(), 1500000);
        due("no deed", x.count(4), 2);
        x.issues(7, 1);
        due("keeps in place", x.keeps(), 1500001);
        x.issues(7, 1);

        promise = 49;
        due("back", x.back(), 1500001);
        due("shares", x.shares(7, 0), 1);
        due("a deed", x.count(4), 5);
        text(x, "5").founds();
        due("back again", x.back(), 1500001);
        due("classes", x.count(0), 2);
        due("told", x.told(1, 1), 500000);
        due("paid", x.paid(2), 500000);
        due("undo", x.undo(), 6);
        due("undone", x.count(0), 1);
        due("nothing is kept", new RoundHouse().back(), -2);
        x.full();
        text(x, "12");
        x.back();
        due("the text stays", x.count(6), 2);
        due("the row stays", x.count(5), 3);
    }

    private static void undoing() {
        promise = 50;
        RoundHouse x = new RoundHouse();
        for (int i = 1; i <= 10; i++) {
            x.pool(i);
        }
        due("deeds that can be undone", x.count(3), 8);
        for (int i = 7; i >= 0; i--) {
            due("undo", x.undo(), i);
            due("pool", x.count(1), i + 2);
        }
        due("none can", x.undo(), -2);
        due("deeds so far", x.count(4), 10);
        x.pool(5);
        due("undo", x.undo(), 0);
        due("pool", x.count(1), 2);
        x.issues(0, 0);
        due("refused ones are none", x.undo(), -2);
        x.issues(0, Integer.MAX_VALUE);
        x.issues(1, 7);
        due("refused ones leave nothing", x.shares(0, 0), 0);
        x = afterOneRound();
        x.term(1, 0, 2);
        x.cancels(2, 1, 5);
        x.splits(2);
        x.undo();
        x.undo();
        x.undo();
        due("ratchet", x.type(1, 3), 0);
        due("shares", x.shares(2, 1), 500000);
        due("price", x.type(1, 1), 10000);
        x.undo();
        due("classes", x.count(0), 1);
        due("shares", x.shares(2, 0), 0);
    }

    private static void counting() {
        promise = 51;
        RoundHouse x = forSale();
        due("classes", x.count(0), 3);
        due("pool", x.count(1), 500);
        due("options", x.count(2), 500);
        due("can be undone", x.count(3), 5);
        due("deeds", x.count(4), 5);
        due("numbers", x.count(5), 3);
        text(x, "abcde");
        due("signs", x.count(6), 5);
        due("with a stake", x.count(7), 15);
        due("with options", x.count(8), 8);
        due("with a ratchet", x.count(9), 0);
        x.term(2, 0, 3);
        due("with a ratchet", x.count(9), 4);
        due("with play", x.count(10), 0);
        x.term(1, 3, 1);
        due("with play", x.count(10), 2);
        due("what", x.count(11), -1);
        due("what", x.count(-1), -1);

        promise = 52;
        x = new RoundHouse();
        due("none at first", hasNoNumber(x, 0) ? 1 : 0, 1);
        x.full();
        due("row", x.row(2), 0);
        due("none such", hasNoNumber(x, 3) ? 1 : 0, 1);
        due("none such", hasNoNumber(x, -1) ? 1 : 0, 1);
        due("none such", hasNoNumber(x, Integer.MAX_VALUE) ? 1 : 0, 1);
        due("none such", hasNoNumber(x, Integer.MIN_VALUE) ? 1 : 0, 1);
    }
}
