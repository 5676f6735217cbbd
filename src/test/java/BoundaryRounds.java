/** The boundaries of promises 16 to 23, sentence by sentence: texts of rounds, and what comes of them. */
public final class BoundaryRounds {
    private static final int MIN = Bench.MIN;
    private static final int MAX = Bench.MAX;
    private static final int BILLION = Bench.BILLION;
    private static final String[] WORDS = {"pool", "late", "full", "broad", "narrow", "pref", "part", "play"};
    /** The place of each word in the order of the text: one of full, broad, narrow. */
    private static final int[] PLACES = {0, 1, 2, 2, 2, 3, 4, 5};

    public static void main(String[] args) {
        allWords();
        wrongOrders();
        badSigns();
        numbers();
        holders();
        firstOfAll();
        fiveClasses();
        noPrice();
        tooMuch();
        turns();
        pools();
        ratchetsOfRounds();
        meansOfRounds();
        playing();
        asDeed();
        oneByOne();
        thought();
        told();
        diluted();
        threatens();
        sweep();
        ratchets();
        ratchet();
        ratchetMeans();
        Bench.ends(16, 23);
    }

    private static void due(String call, long got, long want) {
        Bench.due(call, got, want);
    }

    private static void fine(String words) {
        due("\"" + words + "\" is a round", Bench.text(new RoundHouse(), words).threatens(), 0);
    }

    /** The sign at p can't stand there, for each call that reads a round. */
    private static void bad(String words, int p) {
        Bench.refusedText("round", Bench::busy, words, RoundHouse::round, -21 - p);
        Bench.refusedText("thought", Bench::busy, words, RoundHouse::thought, -21 - p);
        Bench.refusedText("diluted", Bench::busy, words, x -> x.diluted(0), -21 - p);
        Bench.refusedText("threatens", Bench::busy, words, RoundHouse::threatens, -21 - p);
        Bench.refusedText("sweep", Bench::busy, words, x -> x.sweep(1), -21 - p);
        Bench.refusedText("ratchets", Bench::busy, words, RoundHouse::ratchets, -21 - p);
    }

    private static void allWords() {
        Bench.promise(16, "it may be followed, in this order, by");
        String[] ratchets = {"", " full", " broad", " narrow"};
        for (int i = 0; i < 128; i++) {
            boolean top = (i & 1) != 0;
            boolean late = (i & 2) != 0;
            boolean pref = (i & 4) != 0;
            int part = i >> 3 & 1;
            int play = i >> 4 & 1;
            String words = "pre 1000" + (top ? " pool 5" : "") + (late ? " late" : "") + ratchets[i >> 5]
                    + (pref ? " pref 7" : "") + (part == 1 ? " part" : "") + (play == 1 ? " play" : "") + ":0=1";
            RoundHouse x = Bench.founded("1000");
            // 6 of 1007 are 5 thousandths or more, 5 of 1006 are not.
            due(words, Bench.round(x, words), top && !late ? 9940 : 10000);
            due(words + ": pool", x.count(1), top ? 6 : 0);
            due(words + ": ratchet", x.type(1, 3), i >> 5);
            due(words + ": pref", x.type(1, 4), pref ? 7 : 10);
            due(words + ": part", x.type(1, 5), part);
            due(words + ": play", x.type(1, 6), play);
        }
    }

    private static int common(String a, String b) {
        int n = 0;
        while (n < a.length() && n < b.length() && a.charAt(n) == b.charAt(n)) {
            n++;
        }
        return n;
    }

    private static String told(int word) {
        return WORDS[word] + (PLACES[word] == 0 || PLACES[word] == 3 ? " 5" : "");
    }

    private static void wrongOrders() {
        Bench.promise(16, "in this order");
        for (int a = 0; a < WORDS.length; a++) {
            for (int b = 0; b < WORDS.length; b++) {
                String ahead = "pre 5 " + told(a);
                String words = ahead + " " + told(b) + ":0=1";
                if (PLACES[b] > PLACES[a]) {
                    fine(words);
                } else if (PLACES[a] == 5) {
                    bad(words, ahead.length());
                } else {
                    int most = 0;
                    for (int c = 0; c < WORDS.length; c++) {
                        most = Math.max(most, PLACES[c] > PLACES[a] ? common(WORDS[b], WORDS[c]) : 0);
                    }
                    bad(words, ahead.length() + 1 + most);
                }
            }
        }
    }

    private static void badSigns() {
        Bench.promise(16, "the first sign with which no text can begin so far");
        String words = "pre 7 pool 50 late narrow pref 10 part play:0=1,3=2";
        fine(words);
        for (int p = 0; p < words.length(); p++) {
            for (char sign : new char[] {'x', 0, 255, 'P'}) {
                bad(words.substring(0, p) + sign + words.substring(p + 1), p);
            }
        }
        for (char sign : new char[] {'x', 0, 255, ' ', ':', '='}) {
            bad(words + sign, words.length());
        }
        bad(words.replace("play:", "play :"), words.indexOf(':'));
        bad(words.replace("part play", "part  play"), words.indexOf("play"));
        bad(words.replace("part play", "partplay"), words.indexOf(" play"));
        bad("Pre 5:0=1", 0);
        bad(" pre 5:0=1", 0);
        bad("pre5:0=1", 3);
        bad("pre 5:", 6);
        bad("pre 5:,0=1", 6);
        bad("pre 5::0=1", 6);
        bad("pre 5 pool:0=1", 10);
        bad("pre 5 pool late:0=1", 11);
        bad("pre 5 pool5:0=1", 10);
        bad("pre 5 pref:0=1", 10);
        bad("pre 5 pref part:0=1", 11);
        bad("pre 5 pref5:0=1", 10);
        bad("pre 5: 0=1", 6);
        bad("pre 5:0 =1", 7);
        bad("pre 5:0= 1", 8);
        bad("pre 5:0=1, 2=1", 10);
        bad("pre 5:0=1,,2=1", 10);
        Bench.promise(16, "p is the number of its signs, if it ends too early");
        String early = "pre 7 pool 50 late narrow pref 10 part play:0=1";
        for (int n = 0; n < early.length(); n++) {
            bad(early.substring(0, n), n);
        }
        bad(early + ",", early.length() + 1);
        bad(early + ",3", early.length() + 2);
        bad(early + ",3=", early.length() + 3);
        fine(early);
    }

    /** A number at each place of a text: fine, or bad at a digit of it. */
    private static void number(String ahead, String digits, String behind, int p) {
        String words = ahead + digits + behind;
        if (p < 0) {
            fine(words);
        } else {
            bad(words, ahead.length() + p);
        }
    }

    private static void numbers(String ahead, String behind, Object... digits) {
        for (int i = 0; i < digits.length; i += 2) {
            number(ahead, (String) digits[i], behind, (Integer) digits[i + 1]);
        }
    }

    private static void numbers() {
        Bench.promise(16, "VALUE 1 .. 1000000000, of 9 digits");
        numbers("pre ", ":0=1", "1", -1, "9", -1, "10", -1, "100000000", -1, "999999999", -1, "0", 0, "00", 0, "05", 0,
                "1000000000", 9, "1000000001", 9, "9999999999", 9, "12345678901234567890", 9, "", 0, "-1", 0, "+1", 0, "1.5", 1);
        Bench.promise(16, "TOP 0 .. 500");
        numbers("pre 9 pool ", ":0=1", "0", -1, "1", -1, "9", -1, "10", -1, "51", -1, "99", -1, "100", -1, "499", -1, "500", -1,
                "501", 2, "509", 2, "510", 2, "600", 2, "999", 2, "1000", 3, "5000", 3, "00", 1, "01", 1, "", 0, "-1", 0);
        Bench.promise(16, "PREF 0 .. 50");
        numbers("pre 9 pref ", " part:0=1", "0", -1, "1", -1, "9", -1, "10", -1, "49", -1, "50", -1, "51", 1, "59", 1, "60", 1,
                "99", 1, "100", 2, "500", 2, "00", 1, "05", 1, "", 0, "-1", 0);
        Bench.promise(16, "MONEY 1 .. 100000000");
        numbers("pre 9:2=", ",3=1", "1", -1, "9", -1, "10", -1, "99999999", -1, "100000000", -1, "0", 0, "00", 0, "01", 0,
                "100000001", 8, "100000009", 8, "100000010", 8, "200000000", 8, "999999999", 8, "1000000000", 9, "1000000001", 9,
                "", 0, "-1", 0, "1.5", 1);
        numbers("pre 9:2=", "", "1", -1, "100000000", -1, "0", 0, "100000001", 8, "", 0);
    }

    private static void holders() {
        Bench.promise(16, "a HOLDER, one digit, that is not above the one ahead");
        for (int a = 0; a <= 9; a++) {
            if (a > 7) {
                bad("pre 5:" + a + "=1", 6);
                continue;
            }
            fine("pre 5:" + a + "=1");
            for (int b = 0; b <= 9; b++) {
                String words = "pre 5:" + a + "=1," + b + "=1";
                if (a == 7) {
                    // No HOLDER is above 7: no text can begin with a comma there.
                    bad(words, 9);
                } else if (b <= a || b > 7) {
                    bad(words, 10);
                } else {
                    fine(words);
                }
            }
        }
        bad("pre 5:10=1", 7);
        bad("pre 5:0=1,10=1", 11);
        bad("pre 5:0=1,2=1,1=1", 14);
        bad("pre 5:7=1,", 9);
        Bench.promise(16, "all HOLDERS, all that they can give");
        StringBuilder words = new StringBuilder("pre 1:");
        for (int h = 0; h < 8; h++) {
            words.append(h == 0 ? "" : ",").append(h).append("=100000000");
        }
        bad(words + ",", words.length());
        RoundHouse x = Bench.founded("1");
        due("round", Bench.round(x, words.toString()), 10000);
        Bench.row(x, "round", 800000000, 1, 800000001);
        due("M", x.told(1, 1), 800000000);
        due("holders", x.type(1, 7), 255);
    }

    private static void firstOfAll() {
        Bench.promise(16, "-21 - p comes first");
        String words = "pre 5:0=0";
        Bench.refusedText("round with five classes", Bench::five, words, RoundHouse::round, -29);
        Bench.refusedText("thought with five classes", Bench::five, words, RoundHouse::thought, -29);
        Bench.refusedText("threatens with five classes", Bench::five, words, RoundHouse::threatens, -29);
        Bench.refusedText("ratchets with five classes", Bench::five, words, RoundHouse::ratchets, -29);
        Bench.refusedText("round of nobody", RoundHouse::new, words, RoundHouse::round, -29);
        for (int h : Bench.BAD_HOLDERS) {
            Bench.refusedText("diluted of " + h, Bench::five, words, x -> x.diluted(h), -29);
        }
        for (int d : new int[] {0, -1, 100000001, MIN, MAX}) {
            Bench.refusedText("sweep of " + d, Bench::five, words, x -> x.sweep(d), -29);
        }
    }

    private static void fiveClasses() {
        Bench.promise(16, "there are five CLASSES");
        RoundHouse x = Bench.five();
        due("classes", x.count(0), 6);
        due("the fifth round has a price", x.type(5, 1), 10000);
        // Of these the price could not be, or FULL would be too much: -2 comes ahead.
        for (String words : new String[] {"pre 1050:1=10", "pre 999999999:0=1", "pre 1:0=100000000", "pre 1 pool 500:0=1"}) {
            Bench.refusedText("round", Bench::five, words, RoundHouse::round, -2);
            Bench.refusedText("thought", Bench::five, words, RoundHouse::thought, -2);
            Bench.refusedText("diluted", Bench::five, words, y -> y.diluted(0), -2);
            for (int h : Bench.BAD_HOLDERS) {
                Bench.refusedText("diluted of " + h, Bench::five, words, y -> y.diluted(h), -1);
            }
        }
        x.undo();
        due("with four it can be", Bench.round(x, "pre 1040:1=10"), 10000);
        due("and not again", Bench.round(x, "pre 1050:1=10"), -2);
        x.end(0);
        x.founds();
        x.issues(0, 1000);
        due("with none it can be", Bench.round(x, "pre 1000:1=10"), 10000);
    }

    private static RoundHouse poolAlone() {
        RoundHouse x = new RoundHouse();
        x.pool(10);
        return x;
    }

    private static void refusedRound(String call, Bench.Maker maker, String words, int want) {
        Bench.refusedText(call + ": round", maker, words, RoundHouse::round, want);
        Bench.refusedText(call + ": thought", maker, words, RoundHouse::thought, want);
        Bench.refusedText(call + ": diluted", maker, words, x -> x.diluted(1), want);
    }

    private static void noPrice() {
        Bench.promise(16, "FULL is 0 for P");
        refusedRound("nobody has anything", RoundHouse::new, "pre 5:0=1", -3);
        refusedRound("the pool aside", BoundaryRounds::poolAlone, "pre 5 late:0=1", -3);
        due("the pool is enough", Bench.round(poolAlone(), "pre 5:0=1"), 5000);
        RoundHouse x = poolAlone();
        x.grant(0, 1);
        due("an option is enough", Bench.round(x, "pre 5 late:0=1"), 50000);
        Bench.promise(16, "P would be 0 or above 100000000");
        due("P 1", Bench.round(Bench.founded("10000"), "pre 1:0=1"), 1);
        refusedRound("P 0", () -> Bench.founded("10001"), "pre 1:0=1", -3);
        x = Bench.founded("10000");
        due("P 100000000", Bench.round(x, "pre 100000000:0=9999"), 100000000);
        due("none for 9999", x.told(1, 2), 0);
        x = Bench.founded("10000");
        due("P 100000000", Bench.round(x, "pre 100000000:0=10000"), 100000000);
        due("one for 10000", x.told(1, 2), 1);
        refusedRound("P 100000001", () -> Bench.founded("10000"), "pre 100000001:0=1", -3);
        refusedRound("P 9999999990000", () -> Bench.founded("1"), "pre 999999999:0=1", -3);
        Bench.promise(16, "turn by turn: P falls to 0 in a later one");
        refusedRound("P falls to 0", BoundaryRounds::fullOfThousand, "pre 1000:2=100", -3);
    }

    private static RoundHouse fullOfThousand() {
        RoundHouse x = Bench.founded("1000");
        Bench.round(x, "pre 1000 full:1=1000");
        return x;
    }

    /** Common 1000; class 1 with a ratchet: 1000 of holder 1, PRICE and CONV 100000000. */
    private static RoundHouse dear(String ratchet) {
        RoundHouse x = Bench.founded("1000");
        Bench.round(x, "pre 10000000" + ratchet + ":1=10000000");
        return x;
    }

    private static void tooMuch() {
        Bench.promise(16, "FULL, with the new CONVS, POOL and N, would be too much");
        RoundHouse x = Bench.founded("999999998");
        due("one below", Bench.text(x, "pre 999999998:0=1").thought(), 10000);
        due("full", x.row(2), 999999999);
        due("at the bound", Bench.text(x, "pre 999999998:0=2").thought(), 10000);
        due("full", x.row(2), BILLION);
        refusedRound("N", () -> Bench.founded("999999998"), "pre 999999998:0=3", -9);
        refusedRound("N", () -> Bench.founded("999999998"), "pre 999999998:0=1,1=1,2=1", -9);
        refusedRound("N, far too much", () -> Bench.founded("10000"), "pre 1:0=100000000,1=100000000", -9);
        due("at the bound", Bench.round(Bench.founded("499999999"), "pre 499999999 pool 500 late:0=1"), 10000);
        refusedRound("POOL", () -> Bench.founded("500000000"), "pre 500000000 pool 500 late:0=1", -9);
        // TOP 1: 999000000 and a pool of 1000000 are all that may be.
        due("at the bound", Bench.round(Bench.founded("998999999"), "pre 998999999 pool 1 late:0=1"), 10000);
        refusedRound("POOL", () -> Bench.founded("999000000"), "pre 999000000 pool 1 late:0=1", -9);
        // P is 5, and so is CONV: 1000 are 20000000000 then.
        refusedRound("CONV", () -> dear(" full"), "pre 1:2=1", -9);
        due("without the ratchet", Bench.round(dear(""), "pre 1:2=1"), 5);
        refusedRound("FULL at the brim", Bench::brim, "pre 999999999:2=1", -9);
        due("one below the brim", Bench.round(Bench.founded("999999999"), "pre 999999999:2=1"), 10000);
        Bench.promise(16, "by turns more and more, till it is too much");
        refusedRound("POOL", () -> Bench.founded("1000000"), "pre 1000000 pool 500:0=1000000", -9);
    }

    /** Turns of a round of 1 money on dear(" full"), by the document's words and nothing else. */
    private static long[] turnsOf(long value) {
        long conv = 100000000;
        for (int turn = 1; turn <= 1000; turn++) {
            long p = 10000 * value / (1000 + 1000L * 100000000 / conv);
            if (p == 0 || p > 100000000) {
                return new long[] {turn, -3};
            }
            long next = Math.min(p, 100000000);
            if (next == conv) {
                return new long[] {turn, p};
            }
            conv = next;
        }
        return new long[] {1000, -4};
    }

    private static long valueOf(int turns) {
        for (long value = 10379000; value < 10400000; value++) {
            long[] of = turnsOf(value);
            if (of[0] == turns && of[1] > 0) {
                return value;
            }
        }
        return -1;
    }

    private static void turns() {
        Bench.promise(16, "the 200th TURN was not the last one");
        for (int turns : new int[] {199, 200}) {
            long value = valueOf(turns);
            RoundHouse x = dear(" full");
            due(turns + " turns", Bench.round(x, "pre " + value + ":2=1"), turnsOf(value)[1]);
            due("turns", x.row(1), turns);
            due("turns", x.told(2, 3), turns);
        }
        for (int turns : new int[] {201, 202}) {
            Bench.due("there is such a value", valueOf(turns) > 0, true);
            refusedRound(turns + " turns", () -> dear(" full"), "pre " + valueOf(turns) + ":2=1", -4);
        }
        Bench.promise(16, "that one counts");
        RoundHouse x = Bench.founded("1000");
        Bench.round(x, "pre 1000:1=1");
        due("one turn", x.row(1), 1);
        due("one turn", x.told(1, 3), 1);
    }

    private static void pooled(int common, int pool, int top, int money, int wantPool, int wantTurns) {
        RoundHouse x = Bench.founded(String.valueOf(common));
        x.pool(pool);
        String words = "pre " + common + " pool " + top + " late:1=" + money;
        due(words, Bench.round(x, words), 10000);
        due(words + ": pool of " + pool, x.count(1), wantPool);
        Bench.row(x, words, money, wantTurns, common + money + wantPool);
    }

    private static void pools() {
        Bench.promise(16, "POOL: what it was, or, if that is more, the least number that is TOP thousandths or more");
        pooled(1900, 499, 200, 100, 500, 2);
        pooled(1900, 500, 200, 100, 500, 1);
        pooled(1900, 501, 200, 100, 501, 1);
        pooled(1901, 0, 200, 100, 501, 2);
        pooled(1899, 0, 200, 100, 500, 2);
        pooled(1000, 0, 0, 1, 0, 1);
        pooled(1000, 7, 0, 1, 7, 1);
        pooled(998, 0, 1, 1, 1, 2);
        pooled(999, 0, 1, 1, 2, 2);
        pooled(1, 0, 1, 1, 1, 2);
        pooled(999, 0, 500, 1, 1000, 2);
        pooled(999, 999, 500, 1, 1000, 2);
        pooled(999, 1000, 500, 1, 1000, 1);
        pooled(999, 1001, 500, 1, 1001, 1);
        pooled(999, 0, 499, 1, 997, 2);
    }

    private static void ratchetsOfRounds() {
        Bench.promise(16, "a RATCHET of which CONV was above P");
        String[] kinds = {"", " full", " broad", " narrow"};
        for (String kind : kinds) {
            RoundHouse x = Bench.founded("10000");
            Bench.round(x, "pre 10000" + kind + ":1=10000");
            due("P as CONV is, or above it", Bench.text(x, "pre 20000:2=1").thought(), 10000);
            Bench.row(x, "thought", 1, 1, 20001, 0, 10000, 10000);
            due("P above CONV", Bench.text(x, "pre 20002:2=1").thought(), 10001);
            Bench.row(x, "thought", 0, 1, 20000, 0, 10000, 10001);
        }
        RoundHouse x = Bench.founded("10000");
        Bench.round(x, "pre 10000 full:1=10000");
        due("P one below CONV", Bench.text(x, "pre 19999:2=1").thought(), 9999);
        Bench.row(x, "thought", 1, 2, 20002, 0, 9999, 9999);
        x.term(1, 0, 0);
        due("without a ratchet", Bench.text(x, "pre 19999:2=1").thought(), 9999);
        Bench.row(x, "thought", 1, 1, 20001, 0, 10000, 9999);
    }

    private static void meansOfRounds() {
        Bench.promise(16, "CONV as it was at most, and where A and N are 0");
        for (String kind : new String[] {" broad", " narrow"}) {
            RoundHouse x = dear(kind);
            due("none for 1", Bench.text(x, "pre 10000000:2=1").thought(), 50000000);
            Bench.row(x, "thought", 0, 1, 2000, 0, 100000000, 50000000);
            due("one for 5000", Bench.text(x, "pre 10000000:2=5000").thought(), 50000000);
            // 200000000000 and 50000000 by 2001
            Bench.row(x, "thought", 1, 2, 2001, 0, 99975012, 50000000);
        }
        RoundHouse x = dear(" narrow");
        x.cancels(0, 0, 1000);
        x.cancels(1, 1, 1000);
        x.pool(1000);
        due("A and N are 0", Bench.text(x, "pre 1000000:2=1").thought(), 10000000);
        Bench.row(x, "thought", 0, 1, 1000, 1000, 100000000, 10000000);
        due("A is 0", Bench.text(x, "pre 1000000:2=1000").thought(), 10000000);
        Bench.row(x, "thought", 1, 2, 1001, 1000, 10000000, 10000000);
        x.term(1, 0, 2);
        due("A is the pool", Bench.text(x, "pre 1000000:2=1000").thought(), 10000000);
        // 100000000000 and 10000000 by 1001
        Bench.row(x, "thought", 1, 2, 1001, 1000, 99910089, 10000000);
    }

    /** Class 1 with play: 300, 300, 400 of holders 1, 2, 3. */
    private static RoundHouse withPlay() {
        RoundHouse x = Bench.founded("1000");
        Bench.round(x, "pre 1000 play:1=300,2=300,3=400");
        x.full();
        return x;
    }

    private static void playing() {
        Bench.promise(16, "if its MONEY is less than M times its SHARES by all SHARES, cut");
        RoundHouse x = withPlay();
        due("round", Bench.round(x, "pre 2000:1=30,2=30,3=40"), 10000);
        due("as much as due", x.type(1, 0), 1000);
        x = withPlay();
        due("round", Bench.round(x, "pre 2000:1=29,2=31,3=40"), 10000);
        due("one below", x.shares(1, 1), 0);
        due("as common", x.shares(1, 0), 300);
        due("the others stay", x.type(1, 7), 12);
        x = withPlay();
        due("round", Bench.round(x, "pre 2000:0=100"), 10000);
        due("nobody paid", x.type(1, 0), 0);
        due("the class stays", x.count(0), 3);
        due("full", x.full(), 2100);
        x = withPlay();
        due("round", Bench.round(x, "pre 2000:0=2"), 10000);
        due("0 is not less than 0", x.type(1, 0), 1000);
        x = Bench.halves();
        x.term(1, 3, 1);
        due("round", Bench.round(x, "pre 2155:0=100"), 10000);
        due("as many as converted", x.shares(1, 0), 78);
        due("as many as converted", x.shares(3, 0), 76);
        x = withPlay();
        x.term(1, 3, 0);
        due("round", Bench.round(x, "pre 2000:0=100"), 10000);
        due("without play", x.type(1, 0), 1000);
    }

    private static void asDeed() {
        Bench.promise(16, "a round is a deed, and empties THE TEXT");
        RoundHouse x = Bench.text(Bench.busy(), "pre 1500:0=100");
        due("round", x.round(), 10000);
        due("signs", x.count(6), 0);
        due("deeds", x.count(4), 6);
        // Class 2 has play: 250 of holder 4 became common, as they do in a round.
        due("play", x.shares(4, 0), 250);
        due("undo", x.undo(), 5);
        Bench.sameFacts("undone", x, Bench.busy());
        due("no text any more", x.round(), -21);
        due("no text any more", Bench.founded("5").thought(), -21);
    }

    private static void oneByOne() {
        Bench.promise(16, "what one text tells is not told by the next");
        RoundHouse x = Bench.founded("1000");
        String all = "pre 999 pool 100 late narrow pref 50 part play:0=1,1=2,2=3,3=4,4=5,5=6,6=7,7=8";
        due("thought", Bench.text(x, all).thought(), 9990);
        due("bad", Bench.text(x, all + "x").thought(), -21 - all.length());
        due("round", Bench.round(x, "pre 1000:3=1"), 10000);
        Bench.row(x, "round", 1, 1, 1001);
        due("pool", x.count(1), 0);
        due("M", x.told(1, 1), 1);
        due("holders", x.type(1, 7), 8);
        due("ratchet", x.type(1, 3), 0);
        due("pref", x.type(1, 4), 10);
        due("part", x.type(1, 5), 0);
        due("play", x.type(1, 6), 0);
        x = new RoundHouse();
        x.pool(1000);
        due("thought", Bench.text(x, all).thought(), -3);
        due("late no more", Bench.round(x, "pre 1000:3=1"), 10000);
    }

    private static void thought() {
        Bench.promise(17, "the same in thought");
        Bench.asksText("thought", Bench::busy, "pre 1500:0=100", RoundHouse::thought, 10000);
        RoundHouse x = Bench.text(Bench.busy(), "pre 1500:0=100");
        x.thought();
        Bench.row(x, "thought", 100, 1, 1600, 60, 10000, 10000, 10000);
        Bench.promise(17, "CONV of each CLASS, the new one, too");
        x = Bench.founded("1000");
        for (int i = 0; i < 5; i++) {
            Bench.text(x, "pre " + (1000 + 10 * i) + ":1=10").thought();
            due("numbers of the row", x.count(5), 5 + i);
            due("the last one is P", x.row(4 + i), 10000);
            Bench.round(x, "pre " + (1000 + 10 * i) + ":1=10");
            Bench.row(x, "round", 10, 1, 1010 + 10 * i);
        }
    }

    private static void told() {
        Bench.promise(18, "what 0 .. 4; another what, COMMON, no such CLASS");
        long[] want = {1250, 250, 250, 1, 1500};
        for (int what = 0; what <= 4; what++) {
            int w = what;
            Bench.asksAlone("told", Bench::busy, x -> x.told(2, w), want[what]);
        }
        for (int what : new int[] {-1, 5, 6, MIN, MAX}) {
            Bench.refused("told of what " + what, Bench::busy, x -> x.told(2, what), -1);
        }
        for (int what = -1; what <= 5; what++) {
            int w = what;
            Bench.refused("told of common", Bench::busy, x -> x.told(0, w), -1);
            for (int t : Bench.BAD_TYPES) {
                Bench.refused("told of class " + t, Bench::busy, x -> x.told(t, w), -1);
            }
        }
        RoundHouse x = Bench.five();
        due("the last of five", x.told(5, 4), 1050);
        due("no sixth", x.told(6, 0), -1);
        x.undo();
        due("no fifth any more", x.told(5, 0), -1);
    }

    private static void diluted() {
        Bench.promise(19, "no such HOLDER");
        for (int h : Bench.BAD_HOLDERS) {
            Bench.refusedText("diluted of " + h, Bench::busy, "pre 1500:0=100", x -> x.diluted(h), -1);
            Bench.refusedText("diluted of " + h + " with no price", RoundHouse::new, "pre 1:0=100", x -> x.diluted(h), -1);
        }
        Bench.promise(19, "thousandths of FULL behind it, cut");
        Bench.asksText("diluted", Bench::busy, "pre 1500:0=100", x -> x.diluted(0), 437);
        RoundHouse x = Bench.founded("999,1");
        due("all but one", Bench.text(x, "pre 1000:0=1").diluted(0), 999);
        Bench.row(x, "diluted", 999, 1000);
        due("one of 1001", Bench.text(x, "pre 1000:0=1").diluted(1), 0);
        Bench.row(x, "diluted", 1, 1);
        due("two of 1001", Bench.text(x, "pre 1000:1=1").diluted(1), 1);
        Bench.row(x, "diluted", 1, 2);
        due("nothing", Bench.text(x, "pre 1000:1=1").diluted(7), 0);
        Bench.row(x, "diluted", 0, 0);
        x = Bench.founded("1000");
        due("all", Bench.text(x, "pre 1000:0=1").diluted(0), 1000);
        Bench.row(x, "diluted", 1000, 1001);
        Bench.promise(19, "then as round()");
        refusedRound("200 turns", () -> dear(" full"), "pre 10000000:2=1", -4);
    }

    private static void threatened(String words, int bits, long shares) {
        RoundHouse x = Bench.text(withPlay(), words);
        due(words, x.threatens(), bits);
        Bench.row(x, words, shares);
    }

    private static void threatens() {
        Bench.promise(20, "HOLDERS of whom SHARES would become COMMON");
        Bench.asksText("threatens", BoundaryRounds::withPlay, "pre 2000:0=100", RoundHouse::threatens, 14);
        threatened("pre 2000:1=30,2=30,3=40", 0, 0);
        threatened("pre 2000:1=29,2=31,3=40", 2, 300);
        threatened("pre 2000:1=30,2=31,3=39", 8, 400);
        threatened("pre 2000:1=29,2=30,3=40", 0, 0);
        threatened("pre 2000:1=28,2=31,3=40", 2, 300);
        threatened("pre 2000:1=30,2=30,3=41", 0, 0);
        threatened("pre 2000:0=1", 0, 0);
        threatened("pre 2000:0=2", 0, 0);
        threatened("pre 2000:0=3", 8, 400);
        threatened("pre 2000:0=4", 14, 1000);
        // Of all SHARES as they were: holder 2 owes 30, not 30 of what 1 has left.
        threatened("pre 2000:0=30,2=30,3=40", 2, 300);
        RoundHouse x = Bench.founded("1");
        Bench.round(x, "pre 1 play:0=1,1=1,2=1,3=1,4=1,5=1,6=1,7=1");
        due("all", Bench.text(x, "pre 1:0=1,1=1").threatens(), 0);
        due("all but one", Bench.text(x, "pre 1:0=8").threatens(), 254);
        due("all but the last", Bench.text(x, "pre 1:7=8").threatens(), 127);
        Bench.promise(20, "whatever comes of its TURNS");
        due("no price", Bench.text(withPlay(), "pre 999999999:0=100").threatens(), 14);
        due("too much", Bench.text(withPlay(), "pre 1:0=100000000").threatens(), 14);
        Bench.asksText("nobody", RoundHouse::new, "pre 1:0=1", RoundHouse::threatens, 0);
        x = Bench.text(Bench.founded("5"), "pre 1:0=1");
        x.full();
        due("no classes", x.threatens(), 0);
        Bench.row(x, "no classes");
        x = Bench.five();
        x.term(1, 3, 1);
        x.term(5, 3, 1);
        due("five classes", Bench.text(x, "pre 1:0=1").threatens(), 2);
        Bench.row(x, "five classes", 10, 0, 0, 0, 10);
    }

    private static void sweep() {
        Bench.promise(21, "d 1 .. 100000000; another d");
        for (int d : new int[] {0, -1, 100000001, MIN, MAX}) {
            Bench.refusedText("sweep of " + d, Bench::busy, "pre 1500:0=1", x -> x.sweep(d), -1);
            Bench.refusedText("sweep of " + d + " with five classes", Bench::five, "pre 1500:0=1", x -> x.sweep(d), -1);
        }
        Bench.asksText("sweep", Bench::busy, "pre 1500:0=1", x -> x.sweep(1), 8);
        RoundHouse x = Bench.text(Bench.founded("10000"), "pre 1:0=1");
        due("d 1", x.sweep(1), 8);
        Bench.row(x, "d 1", 1, 2, 3, 4, 5, 6, 7, 8);
        x = Bench.text(Bench.founded("1000000"), "pre 100000000:0=1");
        due("d 100000000", x.sweep(100000000), 8);
        Bench.row(x, "d 100000000", 1000000, 2000000, 3000000, 4000000, 5000000, 6000000, 7000000, 8000000);
        Bench.promise(21, "-3 where VALUE is above 1000000000");
        x = Bench.text(Bench.founded("1000000"), "pre 999999993:0=1");
        due("up to 1000000000", x.sweep(1), 8);
        due("the last one", x.row(7), 10000000);
        x = Bench.text(Bench.founded("1000000"), "pre 999999994:0=1");
        due("one above", x.sweep(1), 7);
        due("the last but one", x.row(6), 10000000);
        due("the last one", x.row(7), -3);
        x = Bench.text(Bench.founded("1000000"), "pre 999999999:0=1");
        due("the greatest", x.sweep(100000000), 1);
        Bench.row(x, "the greatest", 9999999, -3, -3, -3, -3, -3, -3, -3);
        Bench.promise(21, "but for -2");
        x = Bench.text(Bench.five(), "pre 999999999:0=1");
        due("five classes", x.sweep(100000000), 0);
        Bench.row(x, "five classes", -2, -2, -2, -2, -2, -2, -2, -2);
        Bench.promise(21, "the number below 0 that says why not");
        x = Bench.text(Bench.founded("10000"), "pre 99999999:0=1");
        due("above the greatest P", x.sweep(1), 2);
        Bench.row(x, "above the greatest P", 99999999, 100000000, -3, -3, -3, -3, -3, -3);
        x = Bench.text(new RoundHouse(), "pre 5:0=1");
        due("nobody", x.sweep(1), 0);
        Bench.row(x, "nobody", -3, -3, -3, -3, -3, -3, -3, -3);
        x = Bench.text(Bench.founded("999999998"), "pre 499999999:0=1");
        // P 5000 and more: 2 new shares at most are not too much; the last VALUE is above 1000000000.
        due("at the brim", x.sweep(83333333), 7);
        Bench.row(x, "at the brim", 5000, 5833, 6666, 7499, 8333, 9166, 9999, -3);
        x = Bench.text(Bench.founded("999999999"), "pre 499999999:0=1");
        due("two would be too much", x.sweep(100000000), 5);
        Bench.row(x, "too much", -9, 5999, 6999, 7999, 8999, 10000, -3, -3);
        x = Bench.text(dear(" full"), "pre 10000000:2=1");
        due("too many turns", x.sweep(1) >= 0 ? x.row(0) : 0, -4);
    }

    private static void ratchets() {
        Bench.promise(22, "how many unlike P there are of those that can be");
        Bench.asksText("ratchets", Bench::busy, "pre 1500:0=100", RoundHouse::ratchets, 1);
        RoundHouse x = Bench.text(fullOfThousand(), "pre 1000:2=100");
        due("one can't be", x.ratchets(), 2);
        Bench.row(x, "ratchets", 5000, -3, 4880, 4880);
        Bench.text(x, "pre 1000:2=100");
        due("the same again", x.ratchets(), 2);
        x = Bench.text(Bench.founded("10000"), "pre 1:2=1");
        due("P 1", x.ratchets(), 1);
        Bench.row(x, "ratchets", 1, 1, 1, 1);
        x = Bench.text(Bench.founded("1000"), "pre 1000:2=100");
        due("no classes", x.ratchets(), 1);
        Bench.row(x, "ratchets", 10000, 10000, 10000, 10000);
        x = Bench.text(new RoundHouse(), "pre 1000:2=100");
        due("nobody", x.ratchets(), 0);
        Bench.row(x, "nobody", -3, -3, -3, -3);
        x = Bench.text(Bench.five(), "pre 1000:2=100");
        due("five classes", x.ratchets(), 0);
        Bench.row(x, "five classes", -2, -2, -2, -2);
        x = Bench.text(Bench.brim(), "pre 999999999:2=1000");
        due("too much", x.ratchets(), 0);
        Bench.row(x, "too much", -9, -9, -9, -9);
        x = Bench.text(dear(""), "pre 10000000:2=1");
        due("too many turns", x.ratchets(), 1);
        Bench.row(x, "too many turns", 50000000, -4, 50000000, 50000000);
    }

    private static void ratchet() {
        int most = 100000000;
        int mostMoney = 800000000;
        Bench.promise(23, "P and N 1 .. 100000000, M 1 .. 800000000; others");
        for (int bad : new int[] {0, -1, most + 1, MIN, MAX}) {
            Bench.refused("p " + bad, Bench::busy, x -> x.ratchet(1, bad, 1, 1), -1);
            Bench.refused("n " + bad, Bench::busy, x -> x.ratchet(1, 1, bad, 1), -1);
        }
        for (int bad : new int[] {0, -1, mostMoney + 1, MIN, MAX}) {
            Bench.refused("m " + bad, Bench::busy, x -> x.ratchet(1, 1, 1, bad), -1);
        }
        for (int t : Bench.BAD_TYPES) {
            Bench.refused("class " + t, Bench::busy, x -> x.ratchet(t, 1, 1, 1), -1);
        }
        Bench.refused("common", Bench::busy, x -> x.ratchet(0, 1, 1, 1), -1);
        Bench.asksAlone("least", Bench::busy, x -> x.ratchet(1, 1, 1, 1), 1);
        Bench.asksAlone("greatest", Bench::busy, x -> x.ratchet(1, most, most, mostMoney), 10000);
        RoundHouse x = Bench.five();
        due("the last of five", x.ratchet(5, 1, 1, 1), 10000);
        due("no sixth", x.ratchet(6, 1, 1, 1), -1);
    }

    private static void ratchetMeans() {
        int most = 100000000;
        Bench.promise(23, "full: P where CONV is above it");
        RoundHouse x = Bench.busy();
        due("one below CONV", x.ratchet(1, 9999, 1, 1), 9999);
        due("CONV", x.ratchet(1, 10000, 1, 1), 10000);
        due("one above CONV", x.ratchet(1, 10001, 1, 1), 10000);
        Bench.promise(23, "none: as it is");
        x.term(1, 0, 0);
        due("none", x.ratchet(1, 1, most, 1), 10000);
        Bench.promise(23, "broad: A is FULL");
        x.term(1, 0, 2);
        // A is 1500: 15000000 and 10000 by 1501, by 1502
        due("as it was", x.ratchet(1, 9999, 1, 1), 10000);
        due("less", x.ratchet(1, 9999, 2, 1), 9993);
        due("P is no less than CONV", x.ratchet(1, 10000, 2, 1), 10000);
        due("as it was at most", x.ratchet(1, 9999, 1, 800000000), 10000);
        due("1 at least", x.ratchet(1, 1, most, 1), 1);
        // 15010000 by 7505 is 2000, and by 7506 1999
        due("cut", x.ratchet(1, 1, 6005, 1), 2000);
        due("cut", x.ratchet(1, 1, 6006, 1), 1999);
        Bench.promise(23, "narrow: A is FULL without OPTIONS and POOL");
        x.term(1, 0, 3);
        // A is 1400: 14010000 by 1402
        due("narrow", x.ratchet(1, 9999, 2, 1), 9992);
        x = dear(" broad");
        x.pool(BILLION - 2000);
        due("the greatest A, N and M", x.ratchet(1, 1, most, 800000000), 90916363);
        x.term(1, 0, 3);
        due("the narrow one", x.ratchet(1, 1, most, 1), 1999);
    }
}
