/** The boundaries of promises 1 to 15, sentence by sentence: shares, options, texts. */
public final class BoundaryDeeds {
    private static final int MIN = Bench.MIN;
    private static final int MAX = Bench.MAX;
    private static final int BILLION = Bench.BILLION;

    public static void main(String[] args) {
        newObject();
        sign();
        end();
        founds();
        foundsTexts();
        noSuchHolder();
        noSuchType();
        belowOne();
        issues();
        cancels();
        pool();
        grant();
        exercise();
        lapses();
        sells();
        gives();
        splits();
        splitPrices();
        withFiveClasses();
        converts();
        term();
        Bench.ends(1, 15);
    }

    private static void due(String call, long got, long want) {
        Bench.due(call, got, want);
    }

    private static void newObject() {
        Bench.promise(1, "nobody has anything");
        RoundHouse x = new RoundHouse();
        for (int h = 0; h < 8; h++) {
            due("shares", x.shares(h, 0), 0);
            due("options", x.options(h), 0);
        }
        int[] counts = {1, 0, 0, 0, 0, 0, 0, 0, 0, 0, 0};
        for (int what = 0; what <= 10; what++) {
            due("count(" + what + ")", x.count(what), counts[what]);
        }
        due("no row", Bench.rowOf(x, 0), Long.MIN_VALUE);
        due("undo", x.undo(), -2);
        due("back", x.back(), -2);
        due("control", x.control(), -2);
        due("leads", x.leads(0), -2);
        due("block", x.block(0), -2);
        due("value", x.value(), -2);
        due("worth", x.worth(0, 5), -2);
        due("still no row", x.count(5), 0);
        due("multiple", x.multiple(0, 5), -2);
        due("class 1", x.type(1, 0), -1);
        due("told", x.told(1, 0), -1);
        due("full", x.full(), 0);
        Bench.row(x, "full", 0, 0, 0);
        due("stake", x.stake(0), 0);
        Bench.row(x, "stake", 0, 0);
        due("greatest", x.greatest(), 0);
        Bench.row(x, "greatest", 0, 1, 2, 3, 4, 5, 6, 7);
        due("exercise", x.exercise(0, 1), -2);
        due("grant", x.grant(0, 1), -2);
        due("gives", x.gives(0, 1), -2);
        due("cancels", x.cancels(0, 0, 1), -2);
        due("splits", x.splits(10), 0);
        due("a deed", x.count(4), 1);
    }

    private static RoundHouse signs(int n) {
        RoundHouse x = Bench.busy();
        x.end(0);
        for (int i = 0; i < n; i += 4) {
            x.sign(0x31323334);
        }
        x.end(n);
        return x;
    }

    private static void sign() {
        Bench.promise(2, "refused: there would be more than 200");
        for (int n = 197; n <= 200; n++) {
            int many = n;
            Bench.refused("sign behind " + n, () -> signs(many), x -> x.sign(0x35363738), -1);
        }
        for (int n = 193; n <= 196; n++) {
            due("sign behind " + n, signs(n).sign(0x35363738), n + 4);
        }
        Bench.promise(2, "four signs, the highest byte first");
        RoundHouse x = new RoundHouse();
        due("sign", x.sign(0), 4);
        due("a sign of 0 is one, too", x.count(6), 4);
        due("sign", x.sign(MIN), 8);
        due("sign", x.sign(-1), 12);
        due("0 can't stand", x.founds(), -21);
        x.sign(0x80000000);
        due("128 can't stand", x.founds(), -21);
        x.sign(0x312C32FF);
        due("255 can't stand", x.founds(), -24);
        x.sign(0x312C3233);
        due("1,23", x.founds(), 24);
        due("holder 0", x.shares(0, 0), 1);
        x.sign(0x312C3233);
        x.end(3);
        x.sign(0x2C343536);
        due("behind what is left: 1,2,456", x.founds(), 459);
        due("holder 2", x.shares(2, 0), 456);
        x.sign(0x31323334);
        x.sign(0x35363738);
        due("the deeds of a text are none", x.count(4), 2);
        Bench.promise(2, "the row stays");
        x = Bench.busy();
        x.sign(0);
        Bench.row(x, "sign", 333, 357);
    }

    private static void end() {
        Bench.promise(3, "its first n signs alone");
        for (int n : new int[] {-1, 5, 200, 201, MIN, MAX}) {
            Bench.refused("end(" + n + ") of 4", Bench::busy, x -> x.end(n) ? 1 : 0, 0);
        }
        for (int n = 4; n >= 0; n--) {
            RoundHouse x = Bench.busy();
            Bench.due("end(" + n + ") of 4", x.end(n), true);
            due("signs", x.count(6), n);
            Bench.due("it has not so many any more", x.end(n + 1), false);
            due("signs", x.count(6), n);
            Bench.row(x, "the row stays", 333, 357);
        }
        RoundHouse x = new RoundHouse();
        Bench.due("end(0) of none", x.end(0), true);
        Bench.due("end(1) of none", x.end(1), false);
        x = signs(200);
        Bench.due("end(201) of 200", x.end(201), false);
        Bench.due("end(200) of 200", x.end(200), true);
        due("signs", x.count(6), 200);
    }

    private static void founds() {
        Bench.promise(4, "an empty one: none");
        RoundHouse x = Bench.text(Bench.busy(), "");
        due("founds", x.founds(), 0);
        due("a deed", x.count(4), 6);
        Bench.promise(4, "in place of all there is");
        for (int what : new int[] {1, 2, 6, 7, 8, 9, 10}) {
            due("count(" + what + ")", x.count(what), 0);
        }
        due("no classes", x.count(0), 1);
        due("no class", x.told(1, 0), -1);
        due("no class", x.shares(2, 1), -1);
        due("no money", x.paid(1), 0);
        due("what is kept stays", x.back(), 1250);
        x = Bench.text(Bench.busy(), "7");
        due("founds", x.founds(), 7);
        due("holder 0", x.shares(0, 0), 7);
        due("holder 1", x.shares(1, 0), 0);
        Bench.row(x, "the row stays", 333, 357);
        x.undo();
        Bench.sameFacts("founds, undone", x, Bench.busy());

        Bench.promise(4, "8 at most");
        x = Bench.text(Bench.busy(), "1,2,3,4,5,6,7,8");
        due("eight", x.founds(), 36);
        for (int h = 0; h < 8; h++) {
            due("shares", x.shares(h, 0), h + 1);
        }
        Bench.promise(4, "it would be too much");
        due("at the bound", Bench.text(Bench.busy(), "999999999,1").founds(), BILLION);
        due("at the bound", Bench.text(Bench.busy(), "0,0,0,0,0,0,1,999999999").founds(), BILLION);
        String nine = "999999999";
        String[] tooMuch = {"999999999,2", "999999999,1,1", "999999999,0,0,0,0,0,0,2",
            nine + "," + nine + "," + nine + "," + nine + "," + nine + "," + nine + "," + nine + "," + nine,
            nine + "," + nine + "," + nine, nine + "," + nine + "," + nine + "," + nine + ",294967300"};
        for (String words : tooMuch) {
            Bench.refusedText("founds", Bench::busy, words, RoundHouse::founds, -9);
        }
    }

    private static void badFounds(String words, int p) {
        Bench.refusedText("founds", Bench::busy, words, RoundHouse::founds, -21 - p);
    }

    private static void foundsTexts() {
        Bench.promise(4, "the sign at p can't stand there");
        String full = "12,0,345678901,4,5,6,7,8";
        for (int p = 0; p < full.length(); p++) {
            for (char bad : new char[] {'x', 0, 255, ' ', '/', ':', '-'}) {
                badFounds(full.substring(0, p) + bad + full.substring(p + 1), p);
            }
        }
        badFounds(full + ",", full.length());
        badFounds(full + ",9", full.length());
        badFounds(full + "x", full.length());
        badFounds(",", 0);
        badFounds(",1", 0);
        badFounds("1,,2", 2);
        Bench.promise(4, "p is the number of its signs, if it ends too early");
        badFounds("1,", 2);
        badFounds("1,2,3,4,5,6,7,", 14);
        Bench.promise(4, "without a nought ahead but 0 itself");
        due("0", Bench.text(Bench.busy(), "0").founds(), 0);
        due("0,0", Bench.text(Bench.busy(), "0,0").founds(), 0);
        due("10,100", Bench.text(Bench.busy(), "10,100").founds(), 110);
        badFounds("00", 1);
        badFounds("01", 1);
        badFounds("1,00", 3);
        badFounds("1,0,09", 5);
        Bench.promise(4, "a number of 10 digits can't stand");
        due("9 digits", Bench.text(Bench.busy(), "123456789").founds(), 123456789);
        due("9 digits", Bench.text(Bench.busy(), "1,999999998,1").founds(), BILLION);
        badFounds("1000000000", 9);
        badFounds("1234567890", 9);
        badFounds("0,1000000000", 11);
        badFounds("1,2,3,4,5,6,7,1234567890", 23);
        Bench.promise(4, "-21 - p ahead of -9");
        badFounds("999999999,999999999,x", 20);
        badFounds("999999999,9999999990", 19);
    }

    private static void noSuchHolder() {
        for (int h : Bench.BAD_HOLDERS) {
            for (int n : new int[] {1, 0, -1, MAX}) {
                String of = "of " + h + ", " + n;
                Bench.promise(5, "no such HOLDER");
                Bench.refused("issues " + of, Bench::busy, x -> x.issues(h, n), -1);
                Bench.promise(6, "no such HOLDER");
                Bench.refused("cancels " + of, Bench::busy, x -> x.cancels(h, 0, n), -1);
                Bench.promise(8, "no such HOLDER");
                Bench.refused("grant " + of, Bench::busy, x -> x.grant(h, n), -1);
                Bench.promise(9, "no such HOLDER");
                Bench.refused("exercise " + of, Bench::busy, x -> x.exercise(h, n), -1);
                Bench.promise(10, "no such HOLDER");
                Bench.refused("lapses " + of, Bench::busy, x -> x.lapses(h, n), -1);
                Bench.promise(11, "no such HOLDER");
                Bench.refused("sells " + of, Bench::busy, x -> x.sells(h, 1, 0, n), -1);
                Bench.refused("sells to " + h, Bench::busy, x -> x.sells(0, h, 0, n), -1);
                Bench.refused("sells to itself " + of, Bench::busy, x -> x.sells(h, h, 0, n), -1);
                Bench.promise(14, "no such HOLDER");
                Bench.refused("converts " + of, Bench::busy, x -> x.converts(h, 1, n), -1);
            }
            Bench.promise(12, "no such HOLDER");
            Bench.refused("gives of " + h, Bench::busy, x -> x.gives(h, 1), -1);
            Bench.refused("gives to " + h, Bench::busy, x -> x.gives(0, h), -1);
            Bench.refused("gives to " + h + " of one that has none", Bench::busy, x -> x.gives(7, h), -1);
            Bench.refused("gives of " + h + " to itself", Bench::busy, x -> x.gives(h, h), -1);
        }
    }

    private static void noSuchType() {
        for (int t : Bench.BAD_TYPES) {
            for (int n : new int[] {1, 0, MAX}) {
                Bench.promise(6, "no such CLASS");
                Bench.refused("cancels of class " + t, Bench::busy, x -> x.cancels(0, t, n), -1);
                Bench.promise(11, "no such CLASS");
                Bench.refused("sells of class " + t, Bench::busy, x -> x.sells(0, 1, t, n), -1);
                Bench.refused("sells to itself of class " + t, Bench::busy, x -> x.sells(0, 0, t, n), -1);
                Bench.promise(14, "no such CLASS");
                Bench.refused("converts of class " + t, Bench::busy, x -> x.converts(1, t, n), -1);
            }
            Bench.promise(15, "no such CLASS");
            Bench.refused("term of class " + t, Bench::busy, x -> x.term(t, 0, 0), -1);
        }
        Bench.promise(14, "COMMON");
        for (int n : new int[] {1, 0, MAX}) {
            Bench.refused("converts of common", Bench::busy, x -> x.converts(0, 0, n), -1);
        }
        for (int t : new int[] {6, 7}) {
            Bench.promise(6, "no such CLASS, of five");
            Bench.refused("cancels of class " + t, Bench::five, x -> x.cancels(1, t, 1), -1);
            Bench.promise(11, "no such CLASS, of five");
            Bench.refused("sells of class " + t, Bench::five, x -> x.sells(1, 0, t, 1), -1);
            Bench.promise(14, "no such CLASS, of five");
            Bench.refused("converts of class " + t, Bench::five, x -> x.converts(1, t, 1), -1);
            Bench.promise(15, "no such CLASS, of five");
            Bench.refused("term of class " + t, Bench::five, x -> x.term(t, 0, 1), -1);
        }
        Bench.promise(6, "the last CLASS of five");
        RoundHouse x = Bench.five();
        due("cancels", x.cancels(1, 5, 1), 1049);
        due("sells", x.sells(1, 7, 5, 1), 8);
        due("converts", x.converts(7, 5, 1), 1);
        due("term", x.term(5, 0, 3), 0);
    }

    private static void belowOne() {
        for (int n : Bench.BELOW_ONE) {
            String of = "of " + n;
            Bench.promise(5, "n is below 1");
            Bench.refused("issues " + of, Bench::busy, x -> x.issues(0, n), -1);
            Bench.promise(6, "n is below 1");
            Bench.refused("cancels " + of, Bench::busy, x -> x.cancels(0, 0, n), -1);
            Bench.refused("cancels of one that has none " + of, Bench::busy, x -> x.cancels(7, 2, n), -1);
            Bench.promise(8, "n is below 1");
            Bench.refused("grant " + of, Bench::busy, x -> x.grant(0, n), -1);
            Bench.refused("grant of no pool " + of, RoundHouse::new, x -> x.grant(0, n), -1);
            Bench.promise(9, "n is below 1");
            Bench.refused("exercise " + of, Bench::busy, x -> x.exercise(3, n), -1);
            Bench.refused("exercise of one that has none " + of, Bench::busy, x -> x.exercise(0, n), -1);
            Bench.promise(10, "n is below 1");
            Bench.refused("lapses " + of, Bench::busy, x -> x.lapses(3, n), -1);
            Bench.refused("lapses of one that has none " + of, Bench::busy, x -> x.lapses(0, n), -1);
            Bench.promise(11, "n is below 1");
            Bench.refused("sells " + of, Bench::busy, x -> x.sells(0, 1, 0, n), -1);
            Bench.refused("sells to itself " + of, Bench::busy, x -> x.sells(0, 0, 0, n), -1);
            Bench.promise(14, "n is below 1");
            Bench.refused("converts " + of, Bench::busy, x -> x.converts(1, 1, n), -1);
        }
    }

    private static void issues() {
        Bench.promise(5, "it would be too much");
        RoundHouse x = Bench.founded("999999997");
        due("1 is enough", x.issues(0, 1), 999999998);
        due("one below the bound", x.issues(7, 1), 999999999);
        due("at the bound", x.issues(7, 1), BILLION);
        due("shares", x.shares(7, 0), 2);
        due("all at once", new RoundHouse().issues(3, BILLION), BILLION);
        for (int n : new int[] {1, BILLION, MAX}) {
            Bench.refused("issues of " + n, Bench::brim, y -> y.issues(0, n), -9);
        }
        Bench.refused("issues", Bench::busy, y -> y.issues(7, BILLION - 1499), -9);
        due("at the bound", Bench.busy().issues(7, BILLION - 1500), BILLION);
        Bench.refused("issues", RoundHouse::new, y -> y.issues(3, BILLION + 1), -9);
    }

    private static void cancels() {
        Bench.promise(6, "it has not so many");
        for (int n : new int[] {601, 602, MAX}) {
            Bench.refused("cancels of " + n, Bench::busy, x -> x.cancels(0, 0, n), -2);
        }
        Bench.refused("cancels of one that has none", Bench::busy, x -> x.cancels(2, 0, 1), -2);
        Bench.refused("cancels", Bench::busy, x -> x.cancels(1, 1, 101), -2);
        Bench.refused("cancels of options", Bench::busy, x -> x.cancels(3, 0, 1), -2);
        due("one less than all", Bench.busy().cancels(0, 0, 599), 901);
        due("all", Bench.busy().cancels(0, 0, 600), 900);
        RoundHouse x = Bench.busy();
        due("1", x.cancels(1, 1, 1), 1499);
        due("all of a class of one", x.cancels(1, 1, 99), 1400);
        due("all of a class", x.cancels(2, 1, 50), 1350);
        due("the class stays", x.count(0), 3);
        due("its price stays", x.type(1, 1), 10000);
        due("nobody has any", x.type(1, 7), 0);
        due("deeds", x.count(4), 8);
        Bench.row(x, "the row stays", 333, 357);
        due("the text stays", x.count(6), 4);
        x = Bench.founded("1");
        due("the last one", x.cancels(0, 0, 1), 0);
    }

    private static void pool() {
        Bench.promise(7, "n is below 0");
        for (int n : new int[] {-1, -2, MIN}) {
            Bench.refused("pool(" + n + ")", Bench::busy, x -> x.pool(n), -1);
        }
        RoundHouse x = Bench.busy();
        due("0", x.pool(0), 60);
        due("1", x.pool(1), 0);
        due("as it is", x.pool(1), 1);
        due("deeds", x.count(4), 8);
        due("pool", x.count(1), 1);
        Bench.row(x, "the row stays", 333, 357);
        Bench.promise(7, "FULL would be too much");
        due("one below the bound", x.pool(BILLION - 1441), 1);
        due("at the bound", x.pool(BILLION - 1440), BILLION - 1441);
        due("full", x.full(), BILLION);
        Bench.refused("pool above the bound", Bench::busy, y -> y.pool(BILLION - 1439), -9);
        Bench.refused("pool", Bench::busy, y -> y.pool(MAX), -9);
        due("all there is", new RoundHouse().pool(BILLION), 0);
        Bench.refused("pool", RoundHouse::new, y -> y.pool(BILLION + 1), -9);
        Bench.refused("pool", Bench::brim, y -> y.pool(1), -9);
        due("0 at the brim", Bench.brim().pool(0), 0);
    }

    private static void grant() {
        Bench.promise(8, "it has not so many");
        for (int n : new int[] {61, 62, MAX}) {
            Bench.refused("grant of " + n, Bench::busy, x -> x.grant(3, n), -2);
        }
        due("1", Bench.busy().grant(3, 1), 59);
        due("one less than all", Bench.busy().grant(3, 59), 1);
        RoundHouse x = Bench.busy();
        due("all", x.grant(3, 60), 0);
        due("options", x.options(3), 100);
        Bench.row(x, "the row stays", 333, 357);
        due("none is left", x.grant(0, 1), -2);
        x = Bench.founded("999999999");
        x.pool(1);
        due("at the brim", x.grant(7, 1), 0);
        due("full", x.full(), BILLION);
    }

    private static void exercise() {
        Bench.promise(9, "it has not so many");
        for (int n : new int[] {41, 42, MAX}) {
            Bench.refused("exercise of " + n, Bench::busy, x -> x.exercise(3, n), -2);
        }
        Bench.refused("exercise of one that has none", Bench::busy, x -> x.exercise(0, 1), -2);
        due("1", Bench.busy().exercise(3, 1), 39);
        due("one less than all", Bench.busy().exercise(3, 39), 1);
        RoundHouse x = Bench.busy();
        due("all", x.exercise(3, 40), 0);
        due("shares", x.shares(3, 0), 40);
        due("pool", x.count(1), 60);
        Bench.row(x, "the row stays", 333, 357);
        due("full", x.full(), 1500);
        x = Bench.founded("999999999");
        x.pool(1);
        x.grant(7, 1);
        due("at the brim", x.exercise(7, 1), 0);
    }

    private static void lapses() {
        Bench.promise(10, "it has not so many");
        for (int n : new int[] {41, 42, MAX}) {
            Bench.refused("lapses of " + n, Bench::busy, x -> x.lapses(3, n), -2);
        }
        Bench.refused("lapses of one that has none", Bench::busy, x -> x.lapses(0, 1), -2);
        due("1", Bench.busy().lapses(3, 1), 61);
        due("one less than all", Bench.busy().lapses(3, 39), 99);
        RoundHouse x = Bench.busy();
        due("all", x.lapses(3, 40), 100);
        due("options", x.options(3), 0);
        Bench.row(x, "the row stays", 333, 357);
        x = Bench.founded("999999999");
        x.pool(1);
        x.grant(7, 1);
        due("at the brim", x.lapses(7, 1), 1);
    }

    private static RoundHouse halvesUpTo(int full) {
        RoundHouse x = Bench.halves();
        x.pool(full - 2155);
        return x;
    }

    private static void sells() {
        Bench.promise(11, "it has not so many, they are one");
        for (int n : new int[] {101, 102, MAX}) {
            Bench.refused("sells of " + n, Bench::busy, x -> x.sells(1, 0, 1, n), -2);
        }
        Bench.refused("sells of one that has none", Bench::busy, x -> x.sells(2, 0, 0, 1), -2);
        for (int n : new int[] {1, 600, 601, MAX}) {
            Bench.refused("sells to itself", Bench::busy, x -> x.sells(0, 0, 0, n), -2);
        }
        due("1", Bench.busy().sells(1, 0, 1, 1), 99);
        due("one less than all", Bench.busy().sells(1, 0, 1, 99), 1);
        RoundHouse x = Bench.busy();
        due("all", x.sells(1, 7, 1, 100), 0);
        due("shares", x.shares(7, 1), 100);
        due("holders", x.type(1, 7), 132);
        Bench.row(x, "the row stays", 333, 357);
        Bench.promise(11, "FULL would be too much");
        Bench.refused("one more by converting", () -> halvesUpTo(BILLION), y -> y.sells(3, 1, 1, 50), -9);
        Bench.refused("too many ahead of too much", () -> halvesUpTo(BILLION), y -> y.sells(3, 1, 1, 51), -2);
        x = halvesUpTo(BILLION - 1);
        due("at the bound", x.sells(3, 1, 1, 50), 0);
        due("full", x.full(), BILLION);
        x = halvesUpTo(BILLION);
        due("as much as it was", x.sells(3, 1, 1, 49), 1);
        due("full", x.full(), BILLION);
    }

    private static void gives() {
        Bench.promise(12, "they are one, it has none");
        for (int h = 0; h < 8; h++) {
            int holder = h;
            Bench.refused("gives to itself", Bench::busy, x -> x.gives(holder, holder), -2);
        }
        for (int h = 5; h < 8; h++) {
            int holder = h;
            Bench.refused("gives of one that has none", Bench::busy, x -> x.gives(holder, 0), -2);
        }
        due("shares of a class alone", Bench.busy().gives(2, 7), 50);
        due("options alone", Bench.busy().gives(3, 7), 40);
        RoundHouse x = Bench.busy();
        due("all", x.gives(1, 4), 750);
        due("nothing is left", x.count(7), 29);
        Bench.row(x, "the row stays", 333, 357);
        due("it has none now", x.gives(1, 4), -2);
        x = Bench.founded("1");
        due("1", x.gives(0, 7), 1);
        Bench.promise(12, "FULL would be too much");
        Bench.refused("one more by converting", () -> halvesUpTo(BILLION), y -> y.gives(3, 1), -9);
        x = halvesUpTo(BILLION - 1);
        due("at the bound", x.gives(3, 1), 155);
        due("full", x.full(), BILLION);
        due("at the brim, to one that has none", halvesUpTo(BILLION).gives(3, 7), 76);
    }

    private static void splits() {
        Bench.promise(13, "k 2 .. 10; another k");
        for (int k : new int[] {1, 11, 0, -1, -2, 12, MIN, MAX}) {
            Bench.refused("splits(" + k + ")", Bench::busy, x -> x.splits(k), -1);
            Bench.refused("splits(" + k + ") at the brim", Bench::brim, x -> x.splits(k), -1);
        }
        for (int k = 2; k <= 10; k++) {
            RoundHouse x = Bench.busy();
            due("splits(" + k + ")", x.splits(k), 1500 * k);
            due("shares", x.shares(4, 2), 250 * k);
            due("options", x.options(3), 40 * k);
            due("pool", x.count(1), 60 * k);
            due("price", x.type(2, 1), 10000 / k);
            due("told stays", x.told(2, 4), 1500);
            due("money stays", x.told(2, 1), 250);
            Bench.row(x, "the row stays", 333, 357);
        }
        Bench.promise(13, "it would be too much");
        due("at the bound", Bench.founded("500000000").splits(2), BILLION);
        Bench.refused("splits", () -> Bench.founded("500000001"), x -> x.splits(2), -9);
        due("one below", Bench.founded("333333333").splits(3), 999999999);
        Bench.refused("splits", () -> Bench.founded("333333334"), x -> x.splits(3), -9);
        due("at the bound", Bench.founded("100000000").splits(10), BILLION);
        Bench.refused("splits", () -> Bench.founded("100000001"), x -> x.splits(10), -9);
        Bench.refused("splits", Bench::brim, x -> x.splits(2), -9);
        Bench.refused("splits", Bench::brim, x -> x.splits(10), -9);
        due("nobody has anything", new RoundHouse().splits(2), 0);
    }

    private static RoundHouse priced(int p) {
        RoundHouse x = Bench.founded("10000");
        Bench.round(x, "pre " + p + ":1=1");
        due("price", x.type(1, 1), p);
        return x;
    }

    private static void splitPrices() {
        Bench.promise(13, "the k-th part, cut, 1 at least");
        int[][] prices = {{1, 2, 1}, {1, 10, 1}, {2, 2, 1}, {3, 2, 1}, {4, 2, 2}, {9, 10, 1}, {10, 10, 1}, {11, 10, 1},
            {19, 10, 1}, {20, 10, 2}, {100000000, 10, 10000000}, {100000000, 3, 33333333}};
        for (int[] p : prices) {
            RoundHouse x = priced(p[0]);
            x.splits(p[1]);
            due("price " + p[0] + " by " + p[1], x.type(1, 1), p[2]);
            due("conv " + p[0] + " by " + p[1], x.type(1, 2), p[2]);
        }
        Bench.promise(13, "FULL by the new PRICE and CONV");
        // PRICE 1000, CONV 649: 510 and 500 are 785 and 770, more than ten times 78 and 76.
        RoundHouse x = Bench.halves();
        due("splits", x.splits(10), 20000 + 785 + 770 + 10);
        due("price", x.type(1, 1), 1000);
        due("conv", x.type(1, 2), 649);
        due("at most", halvesUpTo(99997843 + 2155).splits(10), 999999995);
        Bench.refused("splits", () -> halvesUpTo(99997844 + 2155), y -> y.splits(10), -9);
    }

    private static void withFiveClasses() {
        Bench.promise(12, "all SHARES of five CLASSES");
        RoundHouse x = Bench.fiveAndPool();
        due("gives", x.gives(0, 2), 1008);
        due("common", x.shares(2, 0), 1000);
        due("the last class", x.shares(2, 5), 1);
        due("options", x.options(2), 7);
        for (int t = 1; t <= 5; t++) {
            due("the others stay", x.shares(1, t), t == 5 ? 9 : 10);
        }
        due("nothing is left", x.count(7), 6);
        due("full", x.full(), 1150);
        x = Bench.fiveAndPool();
        x.issues(2, 5);
        due("gives", x.gives(1, 0), 957);
        due("nothing is left", x.count(7), 5);
        due("common of the next one stays", x.shares(2, 0), 105);
        due("it has none now", x.gives(1, 0), -2);
        Bench.promise(13, "all SHARES of five CLASSES, OPTIONS and the POOL");
        x = Bench.fiveAndPool();
        due("splits", x.splits(2), 2300);
        for (int t = 1; t <= 5; t++) {
            due("shares", x.shares(1, t), t == 5 ? 18 : 20);
            due("price", x.type(t, 1), 5000);
            due("conv", x.type(t, 2), 5000);
            due("pref stays", x.type(t, 4), 10);
        }
        due("common", x.shares(0, 0), 1800);
        due("common", x.shares(2, 0), 200);
        due("shares", x.shares(0, 5), 2);
        due("options", x.options(0), 14);
        due("pool", x.count(1), 186);
        Bench.promise(13, "MONEY stays");
        x = Bench.founded("10");
        Bench.round(x, "pre 10:0=5");
        x.splits(2);
        due("splits", x.splits(10), 300);
        due("paid", x.paid(0), 5);
    }

    private static void converts() {
        Bench.promise(14, "1 SHARE that is more");
        // P is 4995, then, as 1 share is 2 of common by a CONV of 4995, 4990.
        RoundHouse low = Bench.founded("1000");
        Bench.round(low, "pre 1000 full:1=1");
        due("round", Bench.round(low, "pre 500 late:2=1"), 4990);
        due("conv", low.type(1, 2), 4990);
        due("stake", low.stake(1), 2);
        due("full", low.full(), 1004);
        due("converts", low.converts(1, 1, 1), 2);
        due("common", low.shares(1, 0), 2);
        Bench.promise(14, "it has not so many");
        for (int n : new int[] {52, 53, MAX}) {
            Bench.refused("converts of " + n, Bench::halves, x -> x.converts(1, 1, n), -2);
        }
        Bench.refused("converts of one that has none", Bench::halves, x -> x.converts(0, 1, 1), -2);
        due("one less than all", Bench.halves().converts(1, 1, 50), 76);
        RoundHouse x = Bench.halves();
        due("all", x.converts(1, 1, 51), 78);
        due("shares", x.shares(1, 0), 78);
        due("shares", x.shares(1, 1), 0);
        due("full", x.full(), 2155);
        x = Bench.halves();
        due("1, cut", x.converts(1, 1, 1), 1);
        due("one less by cutting twice: 76, 1 and 76", x.full(), 2154);
        due("deeds", x.count(4), 5);
        due("at the brim", halvesUpTo(BILLION).converts(1, 1, 51), 78);
    }

    private static int was(int what) {
        return new int[] {1, 10, 0, 0}[what];
    }

    private static void term() {
        int[] most = {3, 50, 1, 1};
        for (int what = 0; what <= 3; what++) {
            int w = what;
            Bench.promise(15, "what " + what + " goes up to " + most[what]);
            for (int v : new int[] {-1, most[what] + 1, MIN, MAX}) {
                Bench.refused("term of " + v, Bench::busy, x -> x.term(1, w, v), -1);
                Bench.refused("term of common of " + v, Bench::busy, x -> x.term(0, w, v), -1);
            }
            for (int v = 0; v <= most[what]; v++) {
                RoundHouse x = Bench.busy();
                due("term of " + v, x.term(1, what, v), was(what));
                due("it is " + v, x.type(1, 3 + what), v);
                due("as it is", x.term(1, what, v), v);
                due("deeds", x.count(4), 7);
                Bench.row(x, "the row stays", 333, 357);
            }
            Bench.refused("term of common", Bench::busy, x -> x.term(0, w, 0), -1);
        }
        Bench.promise(15, "others");
        for (int what : new int[] {-1, 4, 5, 6, 7, MIN, MAX}) {
            for (int v : new int[] {0, 1}) {
                Bench.refused("term of what " + what, Bench::busy, x -> x.term(1, what, v), -1);
            }
        }
    }
}
