import java.util.NoSuchElementException;

/**
 * A round house: holders with shares of classes, options and a pool, rounds that are told as texts,
 * sales of all, and deeds that can be taken back. The document's words are kept: a "type" is the
 * number of a CLASS, 0 is COMMON, "conv" is CONV, the price by which a class converts.
 */
public final class RoundHouse {
    public static final int NONE = -1;

    // Answers below 0 that the document gives a meaning.
    private static final int LACKS = -2;
    private static final int NO_PRICE = -3;
    private static final int NO_REST = -4;
    private static final int TOO_MUCH = -9;
    private static final int BAD_SIGN = -21;

    private static final int HOLDERS = 8;
    private static final int TYPES = 6;
    private static final int COMMON = 0;
    private static final int UNDOABLE = 8;
    private static final int LAST_TURN = 200;
    private static final int MOST_SIGNS = 200;
    private static final int MOST_DIGITS = 9;
    private static final int STEPS = 100;
    private static final int BIGGEST_STEP = 1000000;
    private static final int CURVE_POINTS = 8;
    private static final int BIGGEST_CURVE_STEP = 125000000;
    private static final int SWEEPS = 8;
    private static final int BIGGEST_SWEEP_STEP = 100000000;
    private static final int MOST_ISSUED = 100000000;
    private static final long MOST_FULL = 1000000000L;
    private static final long MOST_VALUE = 1000000000L;
    private static final long MOST_SUM = 1000000000L;
    private static final long MOST_PRICE = 100000000L;
    private static final long MOST_MONEY = 100000000L;
    private static final long MOST_TOLD = 2000000000L;
    private static final int MOST_TOP = 500;
    private static final int MOST_PREF = 50;
    private static final int USUAL_PREF = 10;
    private static final long UNIT = 10000L;
    private static final long PREF_UNIT = 100000L;

    // Kinds of RATCHET; 2, broad, is what is neither of these.
    private static final int FULL_RATCHET = 1;
    private static final int NARROW = 3;

    // What is known of a class; type(), term() and told() count along this order.
    private static final int PRICE = 0;
    private static final int CONV = 1;
    private static final int RATCHET = 2;
    private static final int PREF = 3;
    private static final int PART = 4;
    private static final int PLAY = 5;
    private static final int VALUE = 6;
    private static final int MONEY = 7;
    private static final int ISSUED = 8;
    private static final int TURNS = 9;
    private static final int FULL_BEHIND = 10;
    private static final int FACTS = 11;

    // A house is one row of numbers, so that it is kept and taken back by one copy.
    private static final int HELD_AT = 0;
    private static final int GIVEN_AT = HELD_AT + HOLDERS * TYPES;
    private static final int GRANTED_AT = GIVEN_AT + HOLDERS * TYPES;
    private static final int FACTS_AT = GRANTED_AT + HOLDERS;
    private static final int POOL_AT = FACTS_AT + TYPES * FACTS;
    private static final int TYPES_AT = POOL_AT + 1;
    private static final int CELLS = TYPES_AT + 1;

    private final House now = new House();
    private final House draft = new House();
    private final long[] kept = new long[CELLS];
    private boolean hasKept;
    private final Past past = new Past();
    private final Text text = new Text();
    private final Row line = new Row();
    private final Terms terms = new Terms();
    private final Deal deal = new Deal();
    private final Sale sale = new Sale();
    private final long[] weights = new long[HOLDERS];
    private final int[] ranks = new int[HOLDERS];

    public RoundHouse() {
    }

    // ---- shares, options

    public int sign(int v) {
        return text.adds(v);
    }

    public boolean end(int n) {
        return text.cutsTo(n);
    }

    public int founds() {
        boolean good = text.readsNumbers(weights);
        int p = text.position();
        text.clear();
        if (!good) {
            return BAD_SIGN - p;
        }
        draft.clear();
        for (int h = 0; h < HOLDERS; h++) {
            draft.addHeld(h, COMMON, weights[h]);
        }
        return accepts() ? (int) now.size() : TOO_MUCH;
    }

    public int issues(int holder, int n) {
        if (!isHolder(holder) || n < 1) {
            return NONE;
        }
        beginDraft();
        draft.addHeld(holder, COMMON, n);
        return accepts() ? (int) now.size() : TOO_MUCH;
    }

    public int cancels(int holder, int type, int n) {
        if (!isHolder(holder) || !isType(type) || n < 1) {
            return NONE;
        }
        if (now.held(holder, type) < n) {
            return LACKS;
        }
        beginDraft();
        draft.addHeld(holder, type, -n);
        return accepts() ? (int) now.size() : TOO_MUCH;
    }

    public int pool(int n) {
        if (n < 0) {
            return NONE;
        }
        int was = (int) now.spare();
        beginDraft();
        draft.setSpare(n);
        return accepts() ? was : TOO_MUCH;
    }

    public int grant(int holder, int n) {
        if (!isHolder(holder) || n < 1) {
            return NONE;
        }
        if (now.spare() < n) {
            return LACKS;
        }
        beginDraft();
        draft.setSpare(draft.spare() - n);
        draft.addGranted(holder, n);
        return accepts() ? (int) now.spare() : TOO_MUCH;
    }

    public int exercise(int holder, int n) {
        if (!isHolder(holder) || n < 1) {
            return NONE;
        }
        if (now.granted(holder) < n) {
            return LACKS;
        }
        beginDraft();
        draft.addGranted(holder, -n);
        draft.addHeld(holder, COMMON, n);
        return accepts() ? (int) now.granted(holder) : TOO_MUCH;
    }

    public int lapses(int holder, int n) {
        if (!isHolder(holder) || n < 1) {
            return NONE;
        }
        if (now.granted(holder) < n) {
            return LACKS;
        }
        beginDraft();
        draft.addGranted(holder, -n);
        draft.setSpare(draft.spare() + n);
        return accepts() ? (int) now.spare() : TOO_MUCH;
    }

    public int sells(int holder, int to, int type, int n) {
        if (!isHolder(holder) || !isHolder(to) || !isType(type) || n < 1) {
            return NONE;
        }
        if (holder == to || now.held(holder, type) < n) {
            return LACKS;
        }
        beginDraft();
        draft.addHeld(holder, type, -n);
        draft.addHeld(to, type, n);
        return accepts() ? (int) now.held(holder, type) : TOO_MUCH;
    }

    public int gives(int holder, int to) {
        if (!isHolder(holder) || !isHolder(to)) {
            return NONE;
        }
        if (holder == to || !now.hasAnything(holder)) {
            return LACKS;
        }
        beginDraft();
        for (int c = 0; c < draft.types(); c++) {
            long n = draft.held(holder, c);
            draft.addHeld(holder, c, -n);
            draft.addHeld(to, c, n);
        }
        long options = draft.granted(holder);
        draft.addGranted(holder, -options);
        draft.addGranted(to, options);
        return accepts() ? (int) now.claim(to) : TOO_MUCH;
    }

    public int splits(int k) {
        if (k < 2 || k > 10) {
            return NONE;
        }
        beginDraft();
        draft.multiply(k);
        return accepts() ? (int) now.size() : TOO_MUCH;
    }

    public int converts(int holder, int type, int n) {
        if (!isHolder(holder) || !isSeries(type) || n < 1) {
            return NONE;
        }
        if (now.held(holder, type) < n) {
            return LACKS;
        }
        long common = now.converted(type, n);
        beginDraft();
        draft.addHeld(holder, type, -n);
        draft.addHeld(holder, COMMON, common);
        return accepts() ? (int) common : TOO_MUCH;
    }

    public int term(int type, int what, int v) {
        if (!isSeries(type) || what < 0 || what > PLAY - RATCHET || v < 0 || v > mostOfTerm(what)) {
            return NONE;
        }
        int was = (int) now.fact(type, RATCHET + what);
        beginDraft();
        draft.setFact(type, RATCHET + what, v);
        return accepts() ? was : TOO_MUCH;
    }

    // ---- rounds

    public int round() {
        int bad = readTerms();
        if (bad < 0) {
            return bad;
        }
        int price = deal.works(now, terms);
        if (price < 0) {
            return price;
        }
        draft.load(deal.house.cells);
        if (!accepts()) {
            return TOO_MUCH;
        }
        tellDeal();
        return price;
    }

    public int thought() {
        int bad = readTerms();
        if (bad < 0) {
            return bad;
        }
        int price = deal.works(now, terms);
        if (price < 0) {
            return price;
        }
        tellDeal();
        line.tell(deal.house.spare());
        for (int c = 1; c < deal.house.types(); c++) {
            line.tell(deal.house.fact(c, CONV));
        }
        return price;
    }

    public int told(int type, int what) {
        if (!isSeries(type) || what < 0 || what > FULL_BEHIND - VALUE) {
            return NONE;
        }
        return (int) now.fact(type, VALUE + what);
    }

    public int diluted(int holder) {
        int bad = readTerms();
        if (bad < 0) {
            return bad;
        }
        if (!isHolder(holder)) {
            return NONE;
        }
        int price = deal.works(now, terms);
        if (price < 0) {
            return price;
        }
        long then = deal.house.claim(holder);
        line.clear();
        line.tell(quotient(1000 * now.claim(holder), now.size()));
        line.tell(then);
        return (int) quotient(1000 * then, deal.full);
    }

    public int threatens() {
        int bad = readTerms();
        if (bad < 0) {
            return bad;
        }
        deal.begin(now, terms);
        line.clear();
        for (int c = 1; c < now.types(); c++) {
            line.tell(deal.lost[c]);
        }
        return deal.losers;
    }

    public int sweep(int d) {
        int bad = readTerms();
        if (bad < 0) {
            return bad;
        }
        if (!isUpTo(d, BIGGEST_SWEEP_STEP)) {
            return NONE;
        }
        long first = terms.value;
        int can = 0;
        line.clear();
        for (int i = 0; i < SWEEPS; i++) {
            terms.value = first + (long) i * d;
            int price = deal.works(now, terms);
            line.tell(price);
            if (price > 0) {
                can++;
            }
        }
        return can;
    }

    public int ratchets() {
        int bad = readTerms();
        if (bad < 0) {
            return bad;
        }
        int unlike = 0;
        line.clear();
        for (int kind = 0; kind <= NARROW; kind++) {
            deal.begin(now, terms);
            deal.setRatchets(kind);
            int price = deal.settles(terms);
            if (price > 0 && !line.has(price)) {
                unlike++;
            }
            line.tell(price);
        }
        return unlike;
    }

    public int ratchet(int type, int p, int n, int m) {
        if (!isSeries(type) || !isUpTo(p, MOST_PRICE) || !isUpTo(n, MOST_ISSUED) || !isUpTo(m, HOLDERS * MOST_MONEY)) {
            return NONE;
        }
        long kind = now.fact(type, RATCHET);
        long ahead = kind == NARROW ? now.allVotes() : now.size();
        return (int) ratcheted(now.fact(type, CONV), kind, p, n, m, ahead);
    }

    // ---- who has what

    public int shares(int holder, int type) {
        if (!isHolder(holder) || !isType(type)) {
            return NONE;
        }
        return (int) now.held(holder, type);
    }

    public int options(int holder) {
        if (!isHolder(holder)) {
            return NONE;
        }
        return (int) now.granted(holder);
    }

    public int stake(int holder) {
        if (!isHolder(holder)) {
            return NONE;
        }
        long claim = now.claim(holder);
        line.clear();
        line.tell(quotient(1000 * claim, now.size()));
        line.tell(quotient(1000 * now.votes(holder), now.allVotes()));
        return (int) claim;
    }

    public int full() {
        line.clear();
        for (int c = 0; c < now.types(); c++) {
            line.tell(now.allConverted(c));
        }
        line.tell(now.allGranted());
        line.tell(now.spare());
        return (int) now.size();
    }

    public int type(int type, int what) {
        if (!isType(type) || what < 0 || what > 7) {
            return NONE;
        }
        if (what == 0) {
            return (int) now.allHeld(type);
        }
        if (what == 7) {
            return now.holdersOf(type);
        }
        return type == COMMON ? NONE : (int) now.fact(type, what - 1);
    }

    public int needs(int holder, int n) {
        if (!isHolder(holder) || !isUpTo(n, MOST_FULL)) {
            return NONE;
        }
        long size = now.size();
        return (int) quotient(n * now.claim(holder) + size - 1, size);
    }

    public int greatest() {
        for (int h = 0; h < HOLDERS; h++) {
            weights[h] = now.claim(h);
        }
        rank();
        line.clear();
        for (int i = 0; i < HOLDERS; i++) {
            line.tell(ranks[i]);
        }
        return ranks[0];
    }

    public int control() {
        weighVotes();
        return fewest();
    }

    public int leads(int type) {
        if (!isType(type)) {
            return NONE;
        }
        long all = now.allHeld(type);
        if (all == 0) {
            return LACKS;
        }
        weighHeld(type);
        rank();
        int first = ranks[0];
        long most = now.held(first, type);
        line.clear();
        line.tell(quotient(1000 * most, all));
        line.tell(2 * most > all ? 1 : 0);
        return first;
    }

    public int block(int type) {
        if (!isType(type)) {
            return NONE;
        }
        weighHeld(type);
        return fewest();
    }

    public int paid(int holder) {
        if (!isHolder(holder)) {
            return NONE;
        }
        line.clear();
        for (int c = 1; c < now.types(); c++) {
            line.tell(now.given(holder, c));
        }
        return (int) now.allGiven(holder);
    }

    public int value() {
        int last = now.types() - 1;
        if (last < 1) {
            return LACKS;
        }
        line.clear();
        line.tell(last);
        line.tell(now.fact(last, VALUE) + now.fact(last, MONEY));
        return capped(now.size() * now.fact(last, PRICE) / UNIT);
    }

    public int majority(int holder) {
        if (!isHolder(holder)) {
            return NONE;
        }
        long own = now.votes(holder);
        long all = now.allVotes();
        long more = Math.max(0, all - 2 * own + 1);
        line.clear();
        line.tell(own + more);
        line.tell(all + more);
        return (int) more;
    }

    public int swing(int holder) {
        if (!isHolder(holder)) {
            return NONE;
        }
        weighVotes();
        long all = now.allVotes();
        int own = 0;
        line.clear();
        for (int h = 0; h < HOLDERS; h++) {
            int swings = swingsOf(h, all);
            line.tell(swings);
            if (h == holder) {
                own = swings;
            }
        }
        return own;
    }

    // ---- a sale of all

    public int exit(int s) {
        if (!isSum(s)) {
            return NONE;
        }
        sale.looksAt(now);
        sale.settles(s);
        line.clear();
        line.tell(sale.converting);
        for (int c = 1; c < now.types(); c++) {
            line.tell(sale.typeGets(c));
        }
        return (int) sale.typeGets(COMMON);
    }

    public int gets(int holder, int s) {
        if (!isHolder(holder) || !isSum(s)) {
            return NONE;
        }
        sale.looksAt(now);
        sale.settles(s);
        long first = sale.preferred(now, holder);
        long then = sale.shared(now, holder);
        line.clear();
        line.tell(first);
        line.tell(then);
        return (int) (first + then);
    }

    public int over(int s) {
        if (!isSum(s)) {
            return NONE;
        }
        sale.looksAt(now);
        sale.settles(s);
        long left = s;
        line.clear();
        for (int h = 0; h < HOLDERS; h++) {
            long got = sale.holderGets(now, h);
            line.tell(got);
            left -= got;
        }
        return (int) left;
    }

    public int worth(int type, int s) {
        if (!isType(type) || !isSum(s)) {
            return NONE;
        }
        long all = now.allHeld(type);
        if (all == 0) {
            return LACKS;
        }
        sale.looksAt(now);
        sale.settles(s);
        return capped(quotient(UNIT * sale.typeGets(type), all));
    }

    public long curve(int holder, int d) {
        if (!isHolder(holder) || !isUpTo(d, BIGGEST_CURVE_STEP)) {
            return NONE;
        }
        sale.looksAt(now);
        long together = 0;
        line.clear();
        for (int i = 1; i <= CURVE_POINTS; i++) {
            sale.settles((long) i * d);
            long got = sale.holderGets(now, holder);
            line.tell(got);
            together += got;
        }
        return together;
    }

    public int stage(int s) {
        if (!isSum(s)) {
            return NONE;
        }
        sale.looksAt(now);
        sale.settles(s);
        int whole = 0;
        long lacking = 0;
        for (int c = 1; c < now.types(); c++) {
            if (!sale.isConverting(c)) {
                long lack = sale.lack(c);
                lacking += lack;
                whole |= lack == 0 ? 1 << c : 0;
            }
        }
        line.clear();
        line.tell(capped(lacking));
        return whole;
    }

    public int reaches(int holder, int x, int d) {
        if (!isHolder(holder) || x < 0 || !isUpTo(d, BIGGEST_STEP)) {
            return NONE;
        }
        sale.looksAt(now);
        for (int i = 0; i <= STEPS; i++) {
            sale.settles((long) i * d);
            if (sale.holderGets(now, holder) >= x) {
                return i * d;
            }
        }
        return LACKS;
    }

    public int multiple(int holder, int s) {
        if (!isHolder(holder) || !isSum(s)) {
            return NONE;
        }
        long given = now.allGiven(holder);
        if (given == 0) {
            return LACKS;
        }
        sale.looksAt(now);
        sale.settles(s);
        return capped(quotient(100 * sale.holderGets(now, holder), given));
    }

    public int preference(int type) {
        if (!isSeries(type)) {
            return NONE;
        }
        long together = 0;
        for (int c = type; c < now.types(); c++) {
            together += now.preferred(c);
        }
        line.clear();
        line.tell(capped(together));
        return capped(now.preferred(type));
    }

    public int flips(int type, int d) {
        if (!isSeries(type) || !isUpTo(d, BIGGEST_STEP)) {
            return NONE;
        }
        sale.looksAt(now);
        for (int i = 0; i <= STEPS; i++) {
            sale.settles((long) i * d);
            if (sale.isConverting(type)) {
                return i * d;
            }
        }
        return LACKS;
    }

    // ---- taken back, counted

    public int keeps() {
        now.saveTo(kept);
        hasKept = true;
        return (int) now.size();
    }

    public int back() {
        if (!hasKept) {
            return LACKS;
        }
        draft.load(kept);
        return accepts() ? (int) now.size() : TOO_MUCH;
    }

    public int undo() {
        return past.takesBack(now) ? past.undoable : LACKS;
    }

    public int count(int what) {
        switch (what) {
            case 0:
                return now.types();
            case 1:
                return (int) now.spare();
            case 2:
                return (int) now.allGranted();
            case 3:
                return past.undoable;
            case 4:
                return past.deeds;
            case 5:
                return line.size;
            case 6:
                return text.length;
            case 7:
                return now.claimants();
            case 8:
                return now.grantees();
            case 9:
                return now.typesWith(RATCHET);
            case 10:
                return now.typesWith(PLAY);
            default:
                return NONE;
        }
    }

    public long row(int i) throws NoSuchElementException {
        if (i < 0 || i >= line.size) {
            throw new NoSuchElementException("the row has no such number");
        }
        return line.at(i);
    }

    // ---- what several calls need

    private static boolean isHolder(int holder) {
        return holder >= 0 && holder < HOLDERS;
    }

    private static boolean isSum(int s) {
        return s >= 0 && s <= MOST_SUM;
    }

    private static boolean isUpTo(int n, long most) {
        return n >= 1 && n <= most;
    }

    private boolean isType(int type) {
        return type >= 0 && type < now.types();
    }

    private boolean isSeries(int type) {
        return type >= 1 && type < now.types();
    }

    private static int mostOfTerm(int what) {
        switch (RATCHET + what) {
            case RATCHET:
                return NARROW;
            case PREF:
                return MOST_PREF;
            default:
                return 1;
        }
    }

    /** Division, cut; nothing of nothing is 0. */
    private static long quotient(long a, long b) {
        return b <= 0 ? 0 : a / b;
    }

    private static int capped(long n) {
        return (int) Math.min(n, MOST_TOLD);
    }

    /** CONV behind a round of a class that had CONV was; ahead is A of the document. */
    private static long ratcheted(long was, long kind, long p, long issued, long money, long ahead) {
        if (kind == 0 || was <= p) {
            return was;
        }
        if (kind == FULL_RATCHET) {
            return p;
        }
        if (ahead + issued <= 0) {
            return was;
        }
        long mean = quotient(was * ahead + UNIT * money, ahead + issued);
        return Math.max(1, Math.min(was, mean));
    }

    private void beginDraft() {
        draft.load(now.cells);
    }

    /** The draft becomes what is so, as a deed, unless it would be too much. */
    private boolean accepts() {
        if (draft.size() > MOST_FULL) {
            return false;
        }
        past.notes(now);
        now.load(draft.cells);
        return true;
    }

    /** Reads the text as a round into the terms and empties it: 0, or the answer for a bad sign. */
    private int readTerms() {
        boolean good = text.readsRound(terms);
        int p = text.position();
        text.clear();
        return good ? 0 : BAD_SIGN - p;
    }

    private void tellDeal() {
        line.clear();
        line.tell(deal.issued);
        line.tell(deal.turns);
        line.tell(deal.full);
    }

    private void weighVotes() {
        for (int h = 0; h < HOLDERS; h++) {
            weights[h] = now.votes(h);
        }
    }

    private void weighHeld(int type) {
        for (int h = 0; h < HOLDERS; h++) {
            weights[h] = now.held(h, type);
        }
    }

    /** Ranks holders by weights, the greatest first, of equal ones the lesser number. */
    private void rank() {
        for (int h = 0; h < HOLDERS; h++) {
            int ahead = 0;
            for (int other = 0; other < HOLDERS; other++) {
                if (weights[other] > weights[h] || weights[other] == weights[h] && other < h) {
                    ahead++;
                }
            }
            if (ahead < HOLDERS) {
                ranks[ahead] = h;
            }
        }
    }

    /**
     * How many of the holders with the greatest weights have more than half of all; tells who.
     * Taking equal ones by rising numbers gives the least bits, too.
     */
    private int fewest() {
        long all = 0;
        for (int h = 0; h < HOLDERS; h++) {
            all += weights[h];
        }
        if (all == 0) {
            return LACKS;
        }
        rank();
        long have = 0;
        int bits = 0;
        int many = 0;
        for (int i = 0; i < HOLDERS && 2 * have <= all; i++) {
            have += weights[ranks[i]];
            bits |= 1 << ranks[i];
            many++;
        }
        line.clear();
        line.tell(bits);
        return many;
    }

    private int swingsOf(int holder, long all) {
        int swings = 0;
        for (int set = 0; set < 1 << HOLDERS; set++) {
            if ((set >> holder & 1) == 0) {
                long have = 0;
                for (int h = 0; h < HOLDERS; h++) {
                    have += (set >> h & 1) == 1 ? weights[h] : 0;
                }
                if (2 * have <= all && 2 * (have + weights[holder]) > all) {
                    swings++;
                }
            }
        }
        return swings;
    }

    /** All that is so: who has what, and what is known of the classes. */
    private static final class House {
        private final long[] cells = new long[CELLS];

        House() {
            cells[TYPES_AT] = 1;
        }

        void clear() {
            for (int i = 0; i < CELLS; i++) {
                cells[i] = 0;
            }
            cells[TYPES_AT] = 1;
        }

        void load(long[] from) {
            System.arraycopy(from, 0, cells, 0, CELLS);
        }

        void saveTo(long[] to) {
            System.arraycopy(cells, 0, to, 0, CELLS);
        }

        int types() {
            return (int) cells[TYPES_AT];
        }

        long spare() {
            return cells[POOL_AT];
        }

        void setSpare(long n) {
            cells[POOL_AT] = n;
        }

        long held(int holder, int type) {
            return cells[HELD_AT + holder * TYPES + type];
        }

        void addHeld(int holder, int type, long n) {
            cells[HELD_AT + holder * TYPES + type] += n;
        }

        long given(int holder, int type) {
            return cells[GIVEN_AT + holder * TYPES + type];
        }

        void setGiven(int holder, int type, long n) {
            cells[GIVEN_AT + holder * TYPES + type] = n;
        }

        long granted(int holder) {
            return cells[GRANTED_AT + holder];
        }

        void addGranted(int holder, long n) {
            cells[GRANTED_AT + holder] += n;
        }

        long fact(int type, int what) {
            return cells[FACTS_AT + type * FACTS + what];
        }

        void setFact(int type, int what, long v) {
            cells[FACTS_AT + type * FACTS + what] = v;
        }

        /** A new class without facts: its number, or NONE if there is no room. */
        int addType() {
            int type = types();
            if (type < 1 || type >= TYPES) {
                return NONE;
            }
            cells[TYPES_AT] = type + 1;
            return type;
        }

        long converted(int type, long n) {
            if (type == COMMON || n == 0) {
                return n;
            }
            return quotient(n * fact(type, PRICE), fact(type, CONV));
        }

        long votes(int holder) {
            long sum = 0;
            for (int c = 0; c < types(); c++) {
                sum += converted(c, held(holder, c));
            }
            return sum;
        }

        long claim(int holder) {
            return votes(holder) + granted(holder);
        }

        boolean hasAnything(int holder) {
            long sum = granted(holder);
            for (int c = 0; c < types(); c++) {
                sum += held(holder, c);
            }
            return sum > 0;
        }

        long allHeld(int type) {
            long sum = 0;
            for (int h = 0; h < HOLDERS; h++) {
                sum += held(h, type);
            }
            return sum;
        }

        long allConverted(int type) {
            long sum = 0;
            for (int h = 0; h < HOLDERS; h++) {
                sum += converted(type, held(h, type));
            }
            return sum;
        }

        long allVotes() {
            long sum = 0;
            for (int h = 0; h < HOLDERS; h++) {
                for (int c = 0; c < types(); c++) {
                    sum += converted(c, held(h, c));
                }
            }
            return sum;
        }

        long allGranted() {
            long sum = 0;
            for (int h = 0; h < HOLDERS; h++) {
                sum += granted(h);
            }
            return sum;
        }

        long allGiven(int holder) {
            long sum = 0;
            for (int c = 1; c < types(); c++) {
                sum += given(holder, c);
            }
            return sum;
        }

        /** FULL of the document. */
        long size() {
            return allVotes() + allGranted() + spare();
        }

        /** PREFERENCE of a class of the document. */
        long preferred(int type) {
            return allHeld(type) * fact(type, PRICE) * fact(type, PREF) / PREF_UNIT;
        }

        int holdersOf(int type) {
            int bits = 0;
            for (int h = 0; h < HOLDERS; h++) {
                bits |= held(h, type) > 0 ? 1 << h : 0;
            }
            return bits;
        }

        int claimants() {
            int bits = 0;
            for (int h = 0; h < HOLDERS; h++) {
                bits |= claim(h) > 0 ? 1 << h : 0;
            }
            return bits;
        }

        int grantees() {
            int bits = 0;
            for (int h = 0; h < HOLDERS; h++) {
                bits |= granted(h) > 0 ? 1 << h : 0;
            }
            return bits;
        }

        int typesWith(int what) {
            int bits = 0;
            for (int c = 1; c < types(); c++) {
                bits |= fact(c, what) > 0 ? 1 << c : 0;
            }
            return bits;
        }

        void multiply(int k) {
            for (int h = 0; h < HOLDERS; h++) {
                for (int c = 0; c < types(); c++) {
                    addHeld(h, c, held(h, c) * (k - 1));
                }
                addGranted(h, granted(h) * (k - 1));
            }
            setSpare(spare() * k);
            for (int c = 1; c < types(); c++) {
                setFact(c, PRICE, Math.max(1, quotient(fact(c, PRICE), k)));
                setFact(c, CONV, Math.max(1, quotient(fact(c, CONV), k)));
            }
        }
    }

    /** The houses ahead of the latest deeds. */
    private static final class Past {
        private final long[][] houses = new long[UNDOABLE][CELLS];
        private int next;
        private int undoable;
        private int deeds;

        void notes(House house) {
            house.saveTo(houses[next]);
            next = (next + 1) % UNDOABLE;
            undoable = Math.min(undoable + 1, UNDOABLE);
            deeds++;
        }

        boolean takesBack(House house) {
            if (undoable == 0) {
                return false;
            }
            next = (next + UNDOABLE - 1) % UNDOABLE;
            undoable--;
            house.load(houses[next]);
            return true;
        }
    }

    /** The ROW of the document. */
    private static final class Row {
        private final long[] numbers = new long[12];
        private int size;

        void clear() {
            size = 0;
        }

        void tell(long n) {
            if (size < numbers.length) {
                numbers[size] = n;
                size++;
            }
        }

        boolean has(long n) {
            for (int i = 0; i < size; i++) {
                if (numbers[i] == n) {
                    return true;
                }
            }
            return false;
        }

        long at(int i) {
            return i >= 0 && i < size ? numbers[i] : 0;
        }
    }

    /** What a text tells of a round. */
    private static final class Terms {
        private long value;
        private long top;
        private boolean late;
        private final long[] facts = new long[FACTS];
        private final long[] money = new long[HOLDERS];
        private long sum;

        void clear() {
            value = 0;
            top = 0;
            late = false;
            sum = 0;
            for (int i = 0; i < FACTS; i++) {
                facts[i] = 0;
            }
            facts[PREF] = USUAL_PREF;
            for (int h = 0; h < HOLDERS; h++) {
                money[h] = 0;
            }
        }

        void puts(int holder, long n) {
            money[holder] = n;
            sum += n;
        }
    }

    /** THE TEXT, and how it is read; where reading stops short, the position is the bad sign's. */
    private static final class Text {
        private static final int WORDS = 8;
        private static final int FIRST_RATCHET_WORD = 2;
        private static final int LAST_RATCHET_WORD = 4;

        private final char[] signs = new char[MOST_SIGNS];
        private int length;
        private int at;

        void clear() {
            length = 0;
        }

        int position() {
            return at;
        }

        int adds(int v) {
            if (length + 4 > MOST_SIGNS) {
                return NONE;
            }
            for (int shift = 24; shift >= 0; shift -= 8) {
                signs[length] = (char) (v >>> shift & 255);
                length++;
            }
            return length;
        }

        boolean cutsTo(int n) {
            if (n < 0 || n > length) {
                return false;
            }
            length = n;
            return true;
        }

        private int digitHere() {
            return at < length && signs[at] >= '0' && signs[at] <= '9' ? signs[at] - '0' : NONE;
        }

        private boolean takes(char c) {
            if (at >= length || signs[at] != c) {
                return false;
            }
            at++;
            return true;
        }

        private boolean takesAll(String word) {
            for (int i = 0; i < word.length(); i++) {
                if (!takes(word.charAt(i))) {
                    return false;
                }
            }
            return true;
        }

        /** A number from least (0 or 1) to most: it, or NONE with the position at the bad sign. */
        private long readNumber(int least, long most) {
            long n = digitHere();
            if (n < least) {
                return NONE;
            }
            at++;
            for (int digits = 1; digits <= MOST_DIGITS; digits++) {
                int digit = digitHere();
                if (digit < 0) {
                    return n;
                }
                if (n == 0 || digits == MOST_DIGITS || 10 * n + digit > most) {
                    return NONE;
                }
                n = 10 * n + digit;
                at++;
            }
            return n;
        }

        /** Numbers with commas between, one for each holder at most; the rest are 0. */
        boolean readsNumbers(long[] numbers) {
            at = 0;
            for (int i = 0; i < numbers.length; i++) {
                numbers[i] = 0;
            }
            if (length == 0) {
                return true;
            }
            for (int i = 0; i < numbers.length; i++) {
                long n = readNumber(0, MOST_FULL);
                if (n < 0) {
                    return false;
                }
                numbers[i] = n;
                if (at == length) {
                    return true;
                }
                // Behind the last number a comma can't be: nothing could follow it.
                if (i == numbers.length - 1 || !takes(',')) {
                    return false;
                }
            }
            return false;
        }

        boolean readsRound(Terms terms) {
            at = 0;
            terms.clear();
            if (!takesAll("pre ")) {
                return false;
            }
            terms.value = readNumber(1, MOST_VALUE);
            return terms.value > 0 && readsWords(terms) && takes(':') && readsMoney(terms);
        }

        private boolean readsWords(Terms terms) {
            int from = 0;
            // A blank is left alone once no word can follow it: it is the bad sign then.
            for (int i = 0; i < WORDS && from < WORDS && takes(' '); i++) {
                int word = readWord(from);
                if (word < from || !readsBehind(word, terms)) {
                    return false;
                }
                from = (word >= FIRST_RATCHET_WORD && word <= LAST_RATCHET_WORD ? LAST_RATCHET_WORD : word) + 1;
            }
            return true;
        }

        private static String wordOf(int word) {
            switch (word) {
                case 0:
                    return "pool";
                case 1:
                    return "late";
                case 2:
                    return "full";
                case 3:
                    return "broad";
                case 4:
                    return "narrow";
                case 5:
                    return "pref";
                case 6:
                    return "part";
                default:
                    return "play";
            }
        }

        /** The word that stands here, of those from a number on; none of them begins another one. */
        private int readWord(int from) {
            int start = at;
            int farthest = at;
            for (int word = from; word < WORDS; word++) {
                at = start;
                if (takesAll(wordOf(word))) {
                    return word;
                }
                farthest = Math.max(farthest, at);
            }
            at = farthest;
            return NONE;
        }

        private boolean readsBehind(int word, Terms terms) {
            switch (word) {
                case 0:
                    if (!takes(' ')) {
                        return false;
                    }
                    terms.top = readNumber(0, MOST_TOP);
                    return terms.top >= 0;
                case 1:
                    terms.late = true;
                    return true;
                case 5:
                    if (!takes(' ')) {
                        return false;
                    }
                    terms.facts[PREF] = readNumber(0, MOST_PREF);
                    return terms.facts[PREF] >= 0;
                case 6:
                    terms.facts[PART] = 1;
                    return true;
                case 7:
                    terms.facts[PLAY] = 1;
                    return true;
                default:
                    terms.facts[RATCHET] = word - FIRST_RATCHET_WORD + FULL_RATCHET;
                    return true;
            }
        }

        private boolean readsMoney(Terms terms) {
            int last = NONE;
            for (int i = 0; i < HOLDERS; i++) {
                int holder = digitHere();
                if (holder <= last || holder >= HOLDERS) {
                    return false;
                }
                at++;
                long n = takes('=') ? readNumber(1, MOST_MONEY) : NONE;
                if (n < 1) {
                    return false;
                }
                terms.puts(holder, n);
                last = holder;
                if (at == length) {
                    return true;
                }
                // Behind the last holder a comma can't be: no holder could follow it.
                if (last == HOLDERS - 1 || !takes(',')) {
                    return false;
                }
            }
            return false;
        }
    }

    /** One round, worked out on a house of its own. */
    private static final class Deal {
        private final House house = new House();
        private final long[] convs = new long[TYPES];
        private final long[] lost = new long[TYPES];
        private final long[] news = new long[HOLDERS];
        private int losers;
        private long poolAhead;
        private long broadAhead;
        private long narrowAhead;
        private long price;
        private long issued;
        private int turns;
        private long full;

        int works(House from, Terms terms) {
            begin(from, terms);
            return settles(terms);
        }

        /** Copies the house and lets those pay who must pay to play. */
        void begin(House from, Terms terms) {
            house.load(from.cells);
            losers = 0;
            for (int c = 1; c < house.types(); c++) {
                lost[c] = 0;
                if (house.fact(c, PLAY) == 1) {
                    demote(c, terms);
                }
            }
        }

        private void demote(int type, Terms terms) {
            long all = house.allHeld(type);
            for (int h = 0; h < HOLDERS; h++) {
                long own = house.held(h, type);
                if (own > 0 && terms.money[h] < quotient(terms.sum * own, all)) {
                    lost[type] += own;
                    losers |= 1 << h;
                    house.addHeld(h, type, -own);
                    house.addHeld(h, COMMON, house.converted(type, own));
                }
            }
        }

        void setRatchets(int kind) {
            for (int c = 1; c < house.types(); c++) {
                house.setFact(c, RATCHET, kind);
            }
        }

        /** Turns till the price stands, then adds the new class: the price, or why there is none. */
        int settles(Terms terms) {
            if (house.types() >= TYPES) {
                return LACKS;
            }
            if (terms.value > MOST_VALUE) {
                return NO_PRICE;
            }
            notesAhead();
            long others = broadAhead - poolAhead;
            for (turns = 1; turns <= LAST_TURN; turns++) {
                price = quotient(UNIT * terms.value, terms.late ? others : others + house.spare());
                if (price < 1 || price > MOST_PRICE) {
                    return NO_PRICE;
                }
                allots(terms);
                boolean changed = movesConvs(terms);
                others = house.size() - house.spare();
                // Looked at ahead of the pool, too, so that the pool's own reckoning stays small.
                if (others + issued > MOST_FULL) {
                    return TOO_MUCH;
                }
                long topped = Math.max(poolAhead, toppedUp(terms.top, others + issued));
                full = others + issued + topped;
                if (full > MOST_FULL) {
                    return TOO_MUCH;
                }
                if (topped == house.spare() && !changed) {
                    addsClass(terms);
                    return (int) price;
                }
                house.setSpare(topped);
            }
            return NO_REST;
        }

        private void notesAhead() {
            poolAhead = house.spare();
            broadAhead = house.size();
            narrowAhead = house.allVotes();
            for (int c = 1; c < house.types(); c++) {
                convs[c] = house.fact(c, CONV);
            }
        }

        private void allots(Terms terms) {
            issued = 0;
            for (int h = 0; h < HOLDERS; h++) {
                news[h] = quotient(UNIT * terms.money[h], price);
                issued += news[h];
            }
        }

        private boolean movesConvs(Terms terms) {
            boolean changed = false;
            for (int c = 1; c < house.types(); c++) {
                long kind = house.fact(c, RATCHET);
                long ahead = kind == NARROW ? narrowAhead : broadAhead;
                long conv = ratcheted(convs[c], kind, price, issued, terms.sum, ahead);
                changed = changed || conv != house.fact(c, CONV);
                house.setFact(c, CONV, conv);
            }
            return changed;
        }

        /** The least pool that is top thousandths or more of itself and the rest. */
        private static long toppedUp(long top, long rest) {
            long others = 1000 - top;
            return quotient(top * rest + others - 1, others);
        }

        private void addsClass(Terms terms) {
            int type = house.addType();
            if (type < 1) {
                return;
            }
            for (int what = RATCHET; what <= PLAY; what++) {
                house.setFact(type, what, terms.facts[what]);
            }
            house.setFact(type, PRICE, price);
            house.setFact(type, CONV, price);
            house.setFact(type, VALUE, terms.value);
            house.setFact(type, MONEY, terms.sum);
            house.setFact(type, ISSUED, issued);
            house.setFact(type, TURNS, turns);
            house.setFact(type, FULL_BEHIND, full);
            for (int h = 0; h < HOLDERS; h++) {
                house.addHeld(h, type, news[h]);
                house.setGiven(h, type, terms.money[h]);
            }
        }
    }

    /** EXIT of the document: a sale of all, by preferences and by who converts. */
    private static final class Sale {
        private final long[] all = new long[TYPES];
        private final long[] converted = new long[TYPES];
        private final long[] due = new long[TYPES];
        private final long[] paidFirst = new long[TYPES];
        private long granted;
        private int types;
        private int parting;
        private int converting;
        private long left;
        private long sharers;

        /** Notes what does not depend on the sum, for many sums one after another. */
        void looksAt(House house) {
            types = house.types();
            granted = house.allGranted();
            parting = house.typesWith(PART);
            for (int c = 0; c < types; c++) {
                all[c] = house.allHeld(c);
                converted[c] = house.allConverted(c);
                due[c] = c == COMMON ? 0 : house.preferred(c);
            }
        }

        void settles(long sum) {
            converting = 0;
            for (int joined = 0; joined < TYPES; joined++) {
                int next = firstToJoin(sum);
                if (next == COMMON) {
                    break;
                }
                converting |= 1 << next;
            }
            pays(sum, converting);
        }

        /** The first class that would rather convert, or COMMON if there is none. */
        private int firstToJoin(long sum) {
            for (int c = 1; c < types; c++) {
                int bit = 1 << c;
                if (((parting | converting) & bit) == 0) {
                    pays(sum, converting | bit);
                    long with = getsBy(converting | bit, c);
                    pays(sum, converting);
                    if (with > getsBy(converting, c)) {
                        return c;
                    }
                }
            }
            return COMMON;
        }

        private void pays(long sum, int set) {
            left = sum;
            sharers = converted[COMMON] + granted;
            for (int c = types - 1; c >= 1; c--) {
                paidFirst[c] = (set >> c & 1) == 1 ? 0 : Math.min(due[c], left);
                left -= paidFirst[c];
                sharers += isSharing(set, c) ? converted[c] : 0;
            }
        }

        private boolean isSharing(int set, int type) {
            return type == COMMON || ((set | parting) >> type & 1) == 1;
        }

        private long getsBy(int set, int type) {
            long share = isSharing(set, type) ? quotient(left * converted[type], sharers) : 0;
            return paidFirst[type] + share;
        }

        boolean isConverting(int type) {
            return (converting >> type & 1) == 1;
        }

        long typeGets(int type) {
            return getsBy(converting, type);
        }

        long lack(int type) {
            return due[type] - paidFirst[type];
        }

        long preferred(House house, int holder) {
            long sum = 0;
            for (int c = 1; c < types; c++) {
                sum += quotient(paidFirst[c] * house.held(holder, c), all[c]);
            }
            return sum;
        }

        long shared(House house, int holder) {
            long sum = quotient(left * house.granted(holder), sharers);
            for (int c = 0; c < types; c++) {
                if (isSharing(converting, c)) {
                    sum += quotient(left * house.converted(c, house.held(holder, c)), sharers);
                }
            }
            return sum;
        }

        long holderGets(House house, int holder) {
            return preferred(house, holder) + shared(house, holder);
        }
    }
}
