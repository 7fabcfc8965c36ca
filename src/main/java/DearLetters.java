import java.util.Arrays;

/**
 * The mountain post: a letter costs its last bearer, who sells it on, and comes to its reader dear or never.
 *
 * Everything that a call needs is made in the constructors and used again, so that no call makes an object.
 */
public final class DearLetters {
    public static final int BAD = -1, FULL = -2, FINDING = -3, STATE = -4, SPENT = -6, NONE = -9;

    private static final int NOTHING = 1, BEYOND = 2, UNLIKE = 3, NOUGHT = 4, SIZE = 5;
    private static final int TAKEN = 0;
    private static final int MISSING = -1;

    private static final int ROWS = 6, ROW_SIZE = 40, TEXTS = 4, TEXT_SIZE = 80;
    private static final int BEARERS = 7, PATHS = 12, LETTERS = 4, SALES = 40, PLACES = 3;
    private static final int LAST_DAY = 99, DAYS_AT_ONCE = 20, LUCKY_DAYS = 40;
    private static final int MOST_PURSE = 999, MOST_WORTH = 99, MOST_FALL = 9, MOST_NEED = 999, LOAN = 99;
    private static final int MOST_PRICES = 6, FAR = 20;
    private static final int MISERS_PART = 3;
    private static final int BEARER_FACTS = 4, LETTER_FACTS = 5, COUNTS = 9;
    private static final long LOT_FACTOR = 48271L, LOT_MODULUS = 2147483647L;

    private static final int BEARER = 0, MISER = 1, FRIEND = 2, READER = 3, USURER = 4, SAINT = 5;
    private static final char[] KIND_SIGNS = {'b', 'm', 'f', 'r', 'u', 's'};
    private static final char PATH_SIGN = 'w', BLANK = ' ';

    private final Row[] rows = new Row[ROWS];
    private final Text[] texts = new Text[TEXTS];
    private final Standing[] kept = new Standing[PLACES];
    private final Town town = new Town();
    private final Reading reading = new Reading();
    private final Ledger ledger = new Ledger();
    private final Routes routes = new Routes();
    private final Fits fits = new Fits();
    private final int[] tally = new int[SIZE + 1];
    private int latest;
    private int told;

    public DearLetters() {
        for (int r = 0; r < ROWS; r++) {
            rows[r] = new Row();
        }
        for (int t = 0; t < TEXTS; t++) {
            texts[t] = new Text();
        }
        for (int k = 0; k < PLACES; k++) {
            kept[k] = new Standing();
        }
    }

    // ---- 1 rows, texts, towns

    public int row(int r, int n) {
        if (!isRow(r) || n > ROW_SIZE) {
            return BAD;
        }
        if (n < 0) {
            return found(SIZE);
        }
        rows[r].beZeros(n);
        return n;
    }

    public int lay(int r, int i, int v) {
        int refusal = refusedPlace(r, i);
        if (refusal != TAKEN) {
            return refusal;
        }
        told = rows[r].places[i];
        rows[r].places[i] = v;
        return 1;
    }

    public int at(int r, int i) {
        int refusal = refusedPlace(r, i);
        if (refusal != TAKEN) {
            return refusal;
        }
        told = rows[r].places[i];
        return 1;
    }

    public int tear(int r) {
        int refusal = refusedRow(r);
        if (refusal != TAKEN) {
            return refusal;
        }
        rows[r].size = MISSING;
        return 1;
    }

    public int copy(int r, int i, int to, int j, int n) {
        if (!isRow(r) || !isRow(to)) {
            return BAD;
        }
        if (n < 0) {
            return found(SIZE);
        }
        if (rows[r].isMissing() || rows[to].isMissing()) {
            return found(NOTHING);
        }
        if (!rows[r].holds(i, n) || !rows[to].holds(j, n)) {
            return found(BEYOND);
        }
        System.arraycopy(rows[r].places, i, rows[to].places, j, n);
        return 1;
    }

    public int mean(int r) {
        int refusal = refusedRow(r);
        if (refusal != TAKEN) {
            return refusal;
        }
        int size = rows[r].size;
        if (size <= 0) {
            return found(NOUGHT);
        }
        long sum = 0;
        for (int i = 0; i < size; i++) {
            sum += rows[r].places[i];
        }
        told = (int) (sum / size);
        return 1;
    }

    public int text(int t, int n) {
        if (!isText(t) || n > TEXT_SIZE) {
            return BAD;
        }
        if (n < 0) {
            return found(SIZE);
        }
        texts[t].beBlanks(n);
        return n;
    }

    public int put(int t, int i, int v) {
        int refusal = refusedText(t);
        if (refusal != TAKEN) {
            return refusal;
        }
        if (i < 0 || i >= texts[t].size) {
            return found(BEYOND);
        }
        int was = texts[t].bytes[i];
        texts[t].bytes[i] = (byte) v;
        return was + 1000;
    }

    public int fault(int t) {
        int refusal = refusedText(t);
        if (refusal != TAKEN) {
            return refusal;
        }
        return reading.faultIn(texts[t]);
    }

    public int town(int t) {
        int refusal = refusedText(t);
        if (refusal != TAKEN) {
            return refusal;
        }
        if (reading.faultIn(texts[t]) != NONE) {
            return STATE;
        }
        reading.build(town);
        ledger.size = 0;
        for (int k = 0; k < PLACES; k++) {
            kept[k].there = false;
        }
        return town.bearers;
    }

    public int bearer(int x, int what) {
        if (!town.has(x) || what < 0 || what >= BEARER_FACTS) {
            return BAD;
        }
        told = town.bearerFact(x, what);
        return 1;
    }

    public int mark(int x, int kind) {
        if (!town.has(x) || kind <= BEARER || kind > SAINT) {
            return BAD;
        }
        if (!isOfKind(town.kinds[x], kind)) {
            return found(UNLIKE);
        }
        switch (kind) {
            case MISER:
                return priceAsked(town.kinds[x], 0) - priceAsked(BEARER, 0);
            case FRIEND:
                return town.friendsNear(x);
            case READER:
                return town.unreadTo(x);
            case USURER:
                return priceAsked(town.kinds[x], 10);
            default:
                return town.paidForUnread(x);
        }
    }

    public int purse(int x, int v) {
        if (!town.has(x) || v < 0 || v > MOST_PURSE) {
            return BAD;
        }
        int was = town.now.purses[x];
        town.now.purses[x] = v;
        return was;
    }

    public int snow(int i, int is) {
        if (i < 0 || i >= town.paths || is < 0 || is > 1) {
            return BAD;
        }
        int was = town.now.snow >> i & 1;
        town.now.snow = town.now.snow & ~(1 << i) | is << i;
        return was;
    }

    public int asks(int x, int p) {
        if (!town.has(x) || p < 0 || p > MOST_PURSE) {
            return BAD;
        }
        return priceAsked(town.kinds[x], p);
    }

    public int beside(int x) {
        if (!town.has(x)) {
            return BAD;
        }
        return town.near(x, town.now.snow);
    }

    // ---- 2 letters

    public int send(int x, int y, int worth, int fall) {
        if (!isPair(x, y) || worth < 0 || worth > MOST_WORTH || fall < 0 || fall > MOST_FALL) {
            return BAD;
        }
        int k = town.now.sent;
        if (k >= LETTERS) {
            return FULL;
        }
        town.now.letters[k].begin(x, y, worth, fall, town.now.day);
        town.now.sent = k + 1;
        return k;
    }

    public int sell(int k, int x) {
        int refusal = refusedLetter(k, !town.has(x));
        if (refusal != TAKEN) {
            return refusal;
        }
        Letter letter = town.now.letters[k];
        if (!hasBit(town.buyersOf(letter), x)) {
            return STATE;
        }
        if (ledger.isFull()) {
            return FULL;
        }
        int price = ledger.enterSale(town, k, x);
        return letter.isRead ? price + 1000 : price;
    }

    public int days(int n) {
        if (n < 0 || n > DAYS_AT_ONCE) {
            return BAD;
        }
        if (town.now.day + n > LAST_DAY) {
            return FULL;
        }
        town.now.day += n;
        return town.now.day;
    }

    public int where(int k) {
        int refusal = refusedLetter(k, false);
        if (refusal != TAKEN) {
            return refusal;
        }
        told = town.now.letters[k].paid;
        return town.now.letters[k].holder;
    }

    public int letter(int k, int what) {
        int refusal = refusedLetter(k, what < 0 || what >= LETTER_FACTS);
        if (refusal != TAKEN) {
            return refusal;
        }
        told = town.now.letters[k].fact(what, town.now.day);
        return 1;
    }

    public int can(int k) {
        int refusal = refusedLetter(k, false);
        if (refusal != TAKEN) {
            return refusal;
        }
        return town.buyersOf(town.now.letters[k]);
    }

    public int undo(int n) {
        if (n < 0 || n > ledger.size) {
            return BAD;
        }
        int undone = ledger.size - n;
        for (int i = 0; i < undone; i++) {
            ledger.undoLast(town);
        }
        return undone;
    }

    public int keep(int k) {
        if (!isPlace(k)) {
            return BAD;
        }
        if (town.bearers == 0) {
            return STATE;
        }
        kept[k].beLike(town.now);
        kept[k].there = true;
        return town.now.day;
    }

    public int on(int k) {
        if (!isPlace(k)) {
            return BAD;
        }
        if (!kept[k].there) {
            return found(NOTHING);
        }
        town.now.beLike(kept[k]);
        ledger.size = 0;
        return town.now.day;
    }

    // ---- 3 routes

    public int cheapest(int k, int r) {
        int refusal = refusedRoute(k, !isRow(r));
        if (refusal != TAKEN) {
            return refusal;
        }
        routes.walkOf(town, town.now.letters[k]);
        if (!routes.cheap.there) {
            return NONE;
        }
        rows[r].beLike(routes.cheap.row, routes.cheap.sales + 1);
        return routes.cheap.price;
    }

    public int soonest(int k, int r) {
        int refusal = refusedRoute(k, !isRow(r));
        if (refusal != TAKEN) {
            return refusal;
        }
        routes.walkOf(town, town.now.letters[k]);
        if (!routes.soon.there) {
            return NONE;
        }
        rows[r].beLike(routes.soon.row, routes.soon.sales + 1);
        told = routes.soon.price;
        return routes.soon.sales;
    }

    public int comes(int k) {
        int refusal = refusedRoute(k, false);
        if (refusal != TAKEN) {
            return refusal;
        }
        routes.walkOf(town, town.now.letters[k]);
        told = routes.all;
        return routes.coming;
    }

    public int bars(int k) {
        int refusal = refusedRoute(k, false);
        if (refusal != TAKEN) {
            return refusal;
        }
        routes.walkOf(town, town.now.letters[k]);
        return routes.coming == 0 ? 0 : routes.onEach;
    }

    public int why(int k) {
        int refusal = refusedRoute(k, false);
        if (refusal != TAKEN) {
            return refusal;
        }
        routes.walkOf(town, town.now.letters[k]);
        if (routes.coming > 0) {
            return 0;
        }
        if (routes.all > 0) {
            return 3;
        }
        return routes.isLinked(town) ? 2 : 1;
    }

    public int needs(int k) {
        int refusal = refusedRoute(k, false);
        if (refusal != TAKEN) {
            return refusal;
        }
        routes.walkOf(town, town.now.letters[k]);
        return routes.all == 0 || routes.leastNeed > MOST_NEED ? NONE : routes.leastNeed;
    }

    public int lend(int k) {
        int refusal = refusedRoute(k, false);
        if (refusal != TAKEN) {
            return refusal;
        }
        Letter letter = town.now.letters[k];
        routes.lookAt(town, letter);
        int who = NONE;
        int least = 0;
        for (int x = 0; x < town.bearers; x++) {
            // A READER is never between, so a loan to one who is not to read it is no loan on its way.
            if (x == letter.holder || town.kinds[x] == READER && x != letter.reader) {
                continue;
            }
            routes.walkWithLoan(town, x, LOAN);
            if (routes.cheap.there && (who == NONE || routes.cheap.price < least)) {
                who = x;
                least = routes.cheap.price;
            }
        }
        if (who != NONE) {
            told = least;
        }
        return who;
    }

    public int block(int k) {
        int refusal = refusedRoute(k, false);
        if (refusal != TAKEN) {
            return refusal;
        }
        routes.lookAt(town, town.now.letters[k]);
        int open = (1 << town.paths) - 1 & ~town.now.snow;
        for (int fallen = 0; fallen <= town.paths; fallen++) {
            int snow = leastBlock(open, fallen);
            if (snow != NONE) {
                told = snow;
                return fallen;
            }
        }
        return 0;
    }

    // ---- 4 worth, bundles, a post

    public int worth(int k, int x, int d) {
        int refusal = refusedRoute(k, !town.has(x) || d < 0 || d > FAR);
        if (refusal != TAKEN) {
            return refusal;
        }
        return town.worthTo(town.now.letters[k], x, d);
    }

    public int bundle(int x) {
        if (!town.has(x)) {
            return BAD;
        }
        int buyable = town.buyableBy(x);
        int most = 0;
        int which = 0;
        for (int bits = 1; bits < 1 << LETTERS; bits++) {
            int size = Integer.bitCount(bits);
            if (size > most && (bits & ~buyable) == 0 && town.priceOfAll(bits) <= town.now.purses[x]) {
                most = size;
                which = bits;
            }
        }
        told = which;
        return most;
    }

    public int post(int v) {
        if (v < 0 || v > MOST_WORTH) {
            return BAD;
        }
        int dearer = 0;
        int none = 0;
        for (int x = 0; x < town.bearers; x++) {
            for (int y = 0; y < town.bearers; y++) {
                if (x == y) {
                    continue;
                }
                routes.walkNew(town, x, y);
                if (!routes.cheap.there) {
                    none++;
                } else if (v < routes.cheap.price) {
                    dearer++;
                }
            }
        }
        told = none;
        return dearer + none;
    }

    public int fake(int x, int y, int w) {
        if (!isPair(x, y) || w < 0 || w > MOST_WORTH) {
            return BAD;
        }
        routes.walkNew(town, x, y);
        return routes.cheap.there && routes.cheap.price <= w ? routes.cheap.price : 0;
    }

    public int gain(int x) {
        if (!town.has(x)) {
            return BAD;
        }
        told = ledger.gainOf(x);
        return 1;
    }

    // ---- 5 who had it

    public int had(int x, int r) {
        int refusal = refusedPrices(x, r, false);
        if (refusal != TAKEN) {
            return refusal;
        }
        fits.search(town, x, rows[r]);
        told = fits.lasts;
        return fits.all;
    }

    public int sure(int x, int r) {
        int refusal = refusedPrices(x, r, false);
        if (refusal != TAKEN) {
            return refusal;
        }
        fits.search(town, x, rows[r]);
        return fits.all == 0 ? 0 : fits.inEach;
    }

    public int first(int x, int r, int to) {
        int refusal = refusedPrices(x, r, !isRow(to));
        if (refusal != TAKEN) {
            return refusal;
        }
        fits.search(town, x, rows[r]);
        if (fits.all == 0) {
            return NONE;
        }
        int size = rows[r].size + 1;
        rows[to].beLike(fits.firstRow, size);
        return size;
    }

    // ---- 6 lots

    public int luck(int n, int seed) {
        if (n < 1 || n > LUCKY_DAYS || seed < 1 || seed >= LOT_MODULUS) {
            return BAD;
        }
        if (town.bearers == 0) {
            return STATE;
        }
        if (town.now.day + n > LAST_DAY) {
            return FULL;
        }
        long lot = seed;
        int read = 0;
        for (int i = 0; i < n; i++) {
            for (int k = 0; k < town.now.sent; k++) {
                int buyers = town.buyersOf(town.now.letters[k]);
                int many = Integer.bitCount(buyers);
                if (many == 0) {
                    continue;
                }
                if (ledger.isFull()) {
                    return read;
                }
                lot = lot * LOT_FACTOR % LOT_MODULUS;
                ledger.enterSale(town, k, bitAt(buyers, (int) (lot % many)));
                read += town.now.letters[k].isRead ? 1 : 0;
            }
            town.now.day++;
        }
        return read;
    }

    // ---- 7 what is told

    public int asked() {
        return told;
    }

    public long upper() {
        long divisor = commonDivisor(town.richestPurse(), town.allPurses());
        return divisor == 0 ? 0 : town.richestPurse() / divisor;
    }

    public long lower() {
        long divisor = commonDivisor(town.richestPurse(), town.allPurses());
        return divisor == 0 ? 1 : town.allPurses() / divisor;
    }

    public int count(int what) {
        switch (what) {
            case 0:
                return town.bearers;
            case 1:
                return town.paths;
            case 2:
                return town.now.day;
            case 3:
                return town.now.sent;
            case 4:
                return ledger.size;
            case 5:
                return Integer.bitCount(town.now.snow);
            case 6:
                return rowsThere();
            case 7:
                return textsThere();
            case 8:
                return townsKept();
            default:
                return BAD;
        }
    }

    public int finding() {
        return latest;
    }

    public int findings(int f) {
        if (f < NOTHING || f > SIZE) {
            return BAD;
        }
        return tally[f];
    }

    public long digest() {
        long h = 17;
        for (int what = 0; what < COUNTS; what++) {
            h = 31 * h + count(what);
        }
        h = town.digestOn(h);
        for (int k = 0; k < PLACES; k++) {
            h = 31 * h + (kept[k].there ? kept[k].day : MISSING);
        }
        for (int r = 0; r < ROWS; r++) {
            h = rows[r].digestOn(h);
        }
        for (int t = 0; t < TEXTS; t++) {
            h = texts[t].digestOn(h);
        }
        return h;
    }

    // ---- how a call is refused

    private int found(int which) {
        latest = which;
        tally[which]++;
        return FINDING;
    }

    private int refusedRow(int r) {
        if (!isRow(r)) {
            return BAD;
        }
        return rows[r].isMissing() ? found(NOTHING) : TAKEN;
    }

    private int refusedPlace(int r, int i) {
        int refusal = refusedRow(r);
        if (refusal != TAKEN) {
            return refusal;
        }
        return i < 0 || i >= rows[r].size ? found(BEYOND) : TAKEN;
    }

    private int refusedText(int t) {
        if (!isText(t)) {
            return BAD;
        }
        return texts[t].isMissing() ? found(NOTHING) : TAKEN;
    }

    private int refusedLetter(int k, boolean elseBad) {
        if (k < 0 || elseBad) {
            return BAD;
        }
        return k >= town.now.sent ? found(BEYOND) : TAKEN;
    }

    private int refusedRoute(int k, boolean elseBad) {
        int refusal = refusedLetter(k, elseBad);
        if (refusal != TAKEN) {
            return refusal;
        }
        return town.now.letters[k].isRead ? STATE : TAKEN;
    }

    private int refusedPrices(int x, int r, boolean elseBad) {
        if (!town.has(x) || elseBad) {
            return BAD;
        }
        int refusal = refusedRow(r);
        if (refusal != TAKEN) {
            return refusal;
        }
        return rows[r].size > MOST_PRICES ? found(SIZE) : TAKEN;
    }

    private static boolean isRow(int r) {
        return r >= 0 && r < ROWS;
    }

    private static boolean isText(int t) {
        return t >= 0 && t < TEXTS;
    }

    private static boolean isPlace(int k) {
        return k >= 0 && k < PLACES;
    }

    private boolean isPair(int x, int y) {
        return town.has(x) && town.has(y) && x != y;
    }

    // ---- parts of calls

    /** The least set of so many open PATHS whose snow keeps the LETTER looked at from coming, or NONE. */
    private int leastBlock(int open, int fallen) {
        for (int snow = 0; snow < 1 << town.paths; snow++) {
            if ((snow & ~open) == 0 && Integer.bitCount(snow) == fallen && !routes.comesUnder(town, snow)) {
                return snow;
            }
        }
        return NONE;
    }

    private int rowsThere() {
        int there = 0;
        for (int r = 0; r < ROWS; r++) {
            there += rows[r].isMissing() ? 0 : 1;
        }
        return there;
    }

    private int textsThere() {
        int there = 0;
        for (int t = 0; t < TEXTS; t++) {
            there += texts[t].isMissing() ? 0 : 1;
        }
        return there;
    }

    private int townsKept() {
        int there = 0;
        for (int k = 0; k < PLACES; k++) {
            there += kept[k].there ? 1 : 0;
        }
        return there;
    }

    private static boolean hasBit(int bits, int x) {
        return (bits >> x & 1) != 0;
    }

    /** The number of the set bit that has n set bits below it. */
    private static int bitAt(int bits, int n) {
        int left = n;
        for (int x = 0; x < BEARERS; x++) {
            if (!hasBit(bits, x)) {
                continue;
            }
            if (left == 0) {
                return x;
            }
            left--;
        }
        return 0;
    }

    private static long commonDivisor(long a, long b) {
        long greater = a;
        long less = b;
        // Euclid halves the numbers every two steps, so 128 steps are enough for any two longs.
        for (int i = 0; i < 128 && less != 0; i++) {
            long rest = greater % less;
            greater = less;
            less = rest;
        }
        return greater;
    }

    private static boolean isOfKind(int kind, int wanted) {
        return kind == wanted || wanted == BEARER || kind == USURER && wanted == MISER
            || kind == SAINT && wanted == FRIEND;
    }

    private static int priceAsked(int kind, int paid) {
        switch (kind) {
            case MISER:
                return paid + MISERS_PART;
            case FRIEND:
                return paid;
            case USURER:
                return 2 * (paid + MISERS_PART);
            case SAINT:
                return 0;
            default:
                return paid + 1;
        }
    }

    private static final class Row {
        final int[] places = new int[ROW_SIZE];
        int size = MISSING;

        boolean isMissing() {
            return size < 0;
        }

        void beZeros(int n) {
            Arrays.fill(places, 0);
            size = n;
        }

        void beLike(int[] from, int n) {
            System.arraycopy(from, 0, places, 0, n);
            size = n;
        }

        boolean holds(int i, int n) {
            return i >= 0 && i <= size && n <= size - i;
        }

        long digestOn(long before) {
            long h = 31 * before + size;
            for (int i = 0; i < size; i++) {
                h = 31 * h + places[i];
            }
            return h;
        }
    }

    private static final class Text {
        final byte[] bytes = new byte[TEXT_SIZE];
        int size = MISSING;

        boolean isMissing() {
            return size < 0;
        }

        void beBlanks(int n) {
            Arrays.fill(bytes, (byte) BLANK);
            size = n;
        }

        /** The figure at a place, or NONE where there is none such. */
        int figureAt(int i) {
            if (i < 0 || i >= size || bytes[i] < '0' || bytes[i] > '9') {
                return NONE;
            }
            return bytes[i] - '0';
        }

        long digestOn(long before) {
            long h = 31 * before + size;
            for (int i = 0; i < size; i++) {
                h = 31 * h + bytes[i];
            }
            return h;
        }
    }

    /** A TOWN read from a TEXT; kept apart from the TOWN, so that a TEXT with a FAULT leaves that as it is. */
    private static final class Reading {
        final int[] kinds = new int[BEARERS];
        final int[] purses = new int[BEARERS];
        final int[] oneEnds = new int[PATHS];
        final int[] otherEnds = new int[PATHS];
        int bearers;
        int paths;

        int faultIn(Text text) {
            bearers = 0;
            paths = 0;
            for (int i = 0; i < text.size; i++) {
                if (text.bytes[i] == BLANK) {
                    continue;
                }
                int fault = text.bytes[i] == PATH_SIGN ? faultInPath(text, i) : faultInBearer(text, i);
                if (fault != NONE) {
                    return fault;
                }
                // The sign and two figures are one item; the loop itself steps over the last of the three.
                i += 2;
            }
            return NONE;
        }

        private int faultInBearer(Text text, int i) {
            int kind = kindSigned(text.bytes[i]);
            if (kind == NONE || paths > 0 || bearers >= BEARERS) {
                return i;
            }
            int tens = text.figureAt(i + 1);
            if (tens == NONE) {
                return i + 1;
            }
            int ones = text.figureAt(i + 2);
            if (ones == NONE) {
                return i + 2;
            }
            kinds[bearers] = kind;
            purses[bearers] = 10 * tens + ones;
            bearers++;
            return NONE;
        }

        private int faultInPath(Text text, int i) {
            if (paths >= PATHS) {
                return i;
            }
            int one = text.figureAt(i + 1);
            if (one == NONE || one >= bearers) {
                return i + 1;
            }
            int other = text.figureAt(i + 2);
            if (other == NONE || other >= bearers || other == one) {
                return i + 2;
            }
            oneEnds[paths] = one;
            otherEnds[paths] = other;
            paths++;
            return NONE;
        }

        private static int kindSigned(int sign) {
            for (int kind = 0; kind < KIND_SIGNS.length; kind++) {
                if (KIND_SIGNS[kind] == sign) {
                    return kind;
                }
            }
            return NONE;
        }

        void build(Town town) {
            System.arraycopy(kinds, 0, town.kinds, 0, bearers);
            System.arraycopy(oneEnds, 0, town.oneEnds, 0, paths);
            System.arraycopy(otherEnds, 0, town.otherEnds, 0, paths);
            System.arraycopy(purses, 0, town.now.purses, 0, bearers);
            town.bearers = bearers;
            town.paths = paths;
            town.now.snow = 0;
            town.now.day = 0;
            town.now.sent = 0;
        }
    }

    private static final class Letter {
        int sender;
        int reader;
        int worthAtFirst;
        int fall;
        int sentOn;
        int holder;
        int paid;
        int soldOn;
        int timesSold;
        boolean isRead;

        void begin(int x, int y, int worth, int less, int day) {
            sender = x;
            reader = y;
            worthAtFirst = worth;
            fall = less;
            sentOn = day;
            holder = x;
            paid = 0;
            soldOn = NONE;
            timesSold = 0;
            isRead = false;
        }

        void beLike(Letter other) {
            sender = other.sender;
            reader = other.reader;
            worthAtFirst = other.worthAtFirst;
            fall = other.fall;
            sentOn = other.sentOn;
            holder = other.holder;
            paid = other.paid;
            soldOn = other.soldOn;
            timesSold = other.timesSold;
            isRead = other.isRead;
        }

        int worthOn(int day) {
            return Math.max(0, worthAtFirst - fall * (day - sentOn));
        }

        int fact(int what, int day) {
            switch (what) {
                case 0:
                    return sender;
                case 1:
                    return reader;
                case 2:
                    return worthOn(day);
                case 3:
                    return isRead ? 1 : 0;
                default:
                    return timesSold;
            }
        }

        long digestOn(long before, int day) {
            long h = before;
            for (int what = 0; what < LETTER_FACTS; what++) {
                h = 31 * h + fact(what, day);
            }
            h = 31 * h + holder;
            return 31 * h + paid;
        }
    }

    /** What changes in a TOWN from day to day, and so is what is kept of it. */
    private static final class Standing {
        final int[] purses = new int[BEARERS];
        final Letter[] letters = new Letter[LETTERS];
        int snow;
        int day;
        int sent;
        boolean there;

        Standing() {
            for (int k = 0; k < LETTERS; k++) {
                letters[k] = new Letter();
            }
        }

        void beLike(Standing other) {
            System.arraycopy(other.purses, 0, purses, 0, BEARERS);
            for (int k = 0; k < LETTERS; k++) {
                letters[k].beLike(other.letters[k]);
            }
            snow = other.snow;
            day = other.day;
            sent = other.sent;
        }
    }

    private static final class Town {
        final int[] kinds = new int[BEARERS];
        final int[] oneEnds = new int[PATHS];
        final int[] otherEnds = new int[PATHS];
        final Standing now = new Standing();
        final int[] worths = new int[BEARERS];
        final int[] nextWorths = new int[BEARERS];
        int bearers;
        int paths;

        boolean has(int x) {
            return x >= 0 && x < bearers;
        }

        /** Who would be BESIDE one, if there were snow on these PATHS and no others. */
        int near(int x, int snow) {
            int bits = 0;
            for (int i = 0; i < paths; i++) {
                if (hasBit(snow, i)) {
                    continue;
                }
                if (oneEnds[i] == x) {
                    bits |= 1 << otherEnds[i];
                } else if (otherEnds[i] == x) {
                    bits |= 1 << oneEnds[i];
                }
            }
            return bits;
        }

        int bearerFact(int x, int what) {
            switch (what) {
                case 0:
                    return kinds[x];
                case 1:
                    return now.purses[x];
                case 2:
                    return Integer.bitCount(near(x, now.snow));
                default:
                    return unreadWith(x);
            }
        }

        private int unreadWith(int x) {
            int many = 0;
            for (int k = 0; k < now.sent; k++) {
                many += now.letters[k].holder == x && !now.letters[k].isRead ? 1 : 0;
            }
            return many;
        }

        int unreadTo(int x) {
            int many = 0;
            for (int k = 0; k < now.sent; k++) {
                many += now.letters[k].reader == x && !now.letters[k].isRead ? 1 : 0;
            }
            return many;
        }

        int paidForUnread(int x) {
            int sum = 0;
            for (int k = 0; k < now.sent; k++) {
                sum += now.letters[k].holder == x && !now.letters[k].isRead ? now.letters[k].paid : 0;
            }
            return sum;
        }

        int friendsNear(int x) {
            int bits = near(x, now.snow);
            int many = 0;
            for (int y = 0; y < bearers; y++) {
                many += hasBit(bits, y) && isOfKind(kinds[y], FRIEND) ? 1 : 0;
            }
            return many;
        }

        int priceOf(Letter letter) {
            return priceAsked(kinds[letter.holder], letter.paid);
        }

        int buyersOf(Letter letter) {
            if (letter.isRead || letter.soldOn == now.day) {
                return 0;
            }
            int price = priceOf(letter);
            int bits = near(letter.holder, now.snow);
            for (int x = 0; x < bearers; x++) {
                boolean wants = x == letter.reader ? letter.worthOn(now.day) >= price : kinds[x] != READER;
                if (!wants || now.purses[x] < price) {
                    bits &= ~(1 << x);
                }
            }
            return bits;
        }

        int buyableBy(int x) {
            int bits = 0;
            for (int k = 0; k < now.sent; k++) {
                bits |= hasBit(buyersOf(now.letters[k]), x) ? 1 << k : 0;
            }
            return bits;
        }

        int priceOfAll(int bits) {
            int sum = 0;
            for (int k = 0; k < now.sent; k++) {
                sum += hasBit(bits, k) ? priceOf(now.letters[k]) : 0;
            }
            return sum;
        }

        /** Looks back from the farthest DAY, since what it is worth on one hangs on the next one alone. */
        int worthTo(Letter letter, int x, int d) {
            Arrays.fill(worths, 0);
            worths[letter.reader] = letter.worthOn(now.day + FAR);
            for (int ahead = FAR - 1; ahead >= d; ahead--) {
                System.arraycopy(worths, 0, nextWorths, 0, BEARERS);
                for (int y = 0; y < bearers; y++) {
                    worths[y] = y == letter.reader ? letter.worthOn(now.day + ahead) : worthBeside(letter, y);
                }
            }
            return worths[x];
        }

        private int worthBeside(Letter letter, int x) {
            int bits = near(x, now.snow);
            int most = 0;
            for (int y = 0; y < bearers; y++) {
                if (hasBit(bits, y) && (y == letter.reader || kinds[y] != READER)) {
                    most = Math.max(most, nextWorths[y]);
                }
            }
            return Math.max(0, most - 1);
        }

        long richestPurse() {
            long most = 0;
            for (int x = 0; x < bearers; x++) {
                most = Math.max(most, now.purses[x]);
            }
            return most;
        }

        long allPurses() {
            long sum = 0;
            for (int x = 0; x < bearers; x++) {
                sum += now.purses[x];
            }
            return sum;
        }

        long digestOn(long before) {
            long h = before;
            for (int x = 0; x < bearers; x++) {
                for (int what = 0; what < BEARER_FACTS; what++) {
                    h = 31 * h + bearerFact(x, what);
                }
            }
            for (int i = 0; i < paths; i++) {
                h = 31 * h + oneEnds[i];
                h = 31 * h + otherEnds[i];
                h = 31 * h + (now.snow >> i & 1);
            }
            for (int k = 0; k < now.sent; k++) {
                h = now.letters[k].digestOn(h, now.day);
            }
            return h;
        }
    }

    /** A sale, and what was ahead of it, so that it can be undone. */
    private static final class Sale {
        final int[] pursesAhead = new int[BEARERS];
        int letter;
        int seller;
        int buyer;
        int price;
        int paidAhead;
        int soldOnAhead;
    }

    private static final class Ledger {
        final Sale[] sales = new Sale[SALES];
        int size;

        Ledger() {
            for (int i = 0; i < SALES; i++) {
                sales[i] = new Sale();
            }
        }

        boolean isFull() {
            return size >= SALES;
        }

        /** Sells a LETTER to one who can buy it, in a ledger that is not full: the price. */
        int enterSale(Town town, int k, int x) {
            Letter letter = town.now.letters[k];
            int price = town.priceOf(letter);
            Sale sale = sales[size];
            System.arraycopy(town.now.purses, 0, sale.pursesAhead, 0, BEARERS);
            sale.letter = k;
            sale.seller = letter.holder;
            sale.buyer = x;
            sale.price = price;
            sale.paidAhead = letter.paid;
            sale.soldOnAhead = letter.soldOn;
            size++;
            town.now.purses[x] -= price;
            town.now.purses[letter.holder] += price;
            letter.holder = x;
            letter.paid = price;
            letter.soldOn = town.now.day;
            letter.timesSold++;
            letter.isRead = x == letter.reader;
            return price;
        }

        void undoLast(Town town) {
            if (size <= 0) {
                return;
            }
            size--;
            Sale sale = sales[size];
            Letter letter = town.now.letters[sale.letter];
            letter.holder = sale.seller;
            letter.paid = sale.paidAhead;
            letter.soldOn = sale.soldOnAhead;
            letter.timesSold--;
            letter.isRead = false;
            System.arraycopy(sale.pursesAhead, 0, town.now.purses, 0, BEARERS);
        }

        int gainOf(int x) {
            int sum = 0;
            for (int i = 0; i < size; i++) {
                sum += sales[i].seller == x ? sales[i].price : 0;
                sum -= sales[i].buyer == x ? sales[i].price : 0;
            }
            return sum;
        }
    }

    private static final class Best {
        final int[] row = new int[BEARERS];
        int sales;
        int price;
        boolean there;

        void take(int[] walk, int manySales, int lastPrice) {
            System.arraycopy(walk, 0, row, 0, manySales + 1);
            sales = manySales;
            price = lastPrice;
            there = true;
        }
    }

    /** All ROUTES of a LETTER, walked in the order of their numbers, so that of alike ones the first is kept. */
    private static final class Routes {
        final int[] near = new int[BEARERS];
        final int[] purses = new int[BEARERS];
        final int[] walk = new int[BEARERS];
        final Best cheap = new Best();
        final Best soon = new Best();
        int from;
        int to;
        int paid;
        int worthToday;
        int fall;
        int delay;
        int all;
        int coming;
        int onEach;
        int leastNeed;

        void lookAt(Town town, Letter letter) {
            lookFrom(town, letter.holder, letter.reader, letter.paid);
            worthToday = letter.worthOn(town.now.day);
            fall = letter.fall;
            delay = letter.soldOn == town.now.day ? 1 : 0;
        }

        private void lookFrom(Town town, int x, int y, int price) {
            from = x;
            to = y;
            paid = price;
            System.arraycopy(town.now.purses, 0, purses, 0, BEARERS);
            linkUnder(town, town.now.snow);
        }

        private void linkUnder(Town town, int snow) {
            for (int x = 0; x < town.bearers; x++) {
                near[x] = town.near(x, snow);
            }
        }

        void walkOf(Town town, Letter letter) {
            lookAt(town, letter);
            walkAll(town);
        }

        /** Only prices matter for a LETTER that is not yet sent, so it is walked as one worth nothing. */
        void walkNew(Town town, int x, int y) {
            lookFrom(town, x, y, 0);
            worthToday = 0;
            fall = 0;
            delay = 0;
            walkAll(town);
        }

        void walkWithLoan(Town town, int x, int loan) {
            int was = purses[x];
            purses[x] = loan;
            walkAll(town);
            purses[x] = was;
        }

        private void walkAll(Town town) {
            all = 0;
            coming = 0;
            onEach = -1;
            leastNeed = Integer.MAX_VALUE;
            cheap.there = false;
            soon.there = false;
            walk[0] = from;
            walkOn(town, 0, 1 << from, paid);
        }

        private void walkOn(Town town, int sales, int used, int paidHere) {
            int x = walk[sales];
            int price = priceAsked(town.kinds[x], paidHere);
            int next = sales + 1;
            for (int y = 0; y < town.bearers && next < BEARERS; y++) {
                if (!buys(town, x, y, used, price)) {
                    continue;
                }
                walk[next] = y;
                if (y == to) {
                    arrive(next, used, price);
                } else {
                    walkOn(town, next, used | 1 << y, price);
                }
            }
        }

        private boolean buys(Town town, int x, int y, int used, int price) {
            return hasBit(near[x], y) && !hasBit(used, y) && purses[y] >= price
                && (y == to || town.kinds[y] != READER);
        }

        private void arrive(int sales, int used, int price) {
            all++;
            if (!cheap.there || price < cheap.price || price == cheap.price && sales < cheap.sales) {
                cheap.take(walk, sales, price);
            }
            int need = needFor(sales, price);
            leastNeed = Math.min(leastNeed, need);
            if (need > worthToday) {
                return;
            }
            coming++;
            onEach &= used & ~(1 << from);
            if (!soon.there || sales < soon.sales || sales == soon.sales && price < soon.price) {
                soon.take(walk, sales, price);
            }
        }

        /** A WORTH never falls below 0, so what is paid with 0 comes whatever its WORTH. */
        private int needFor(int sales, int price) {
            return price == 0 ? 0 : price + fall * (delay + sales - 1);
        }

        boolean comesUnder(Town town, int moreSnow) {
            linkUnder(town, town.now.snow | moreSnow);
            return comesFrom(town, from, 0, 1 << from, paid);
        }

        private boolean comesFrom(Town town, int x, int sales, int used, int paidHere) {
            int price = priceAsked(town.kinds[x], paidHere);
            int next = sales + 1;
            for (int y = 0; y < town.bearers && next < BEARERS; y++) {
                if (!buys(town, x, y, used, price)) {
                    continue;
                }
                if (y == to ? needFor(next, price) <= worthToday : comesFrom(town, y, next, used | 1 << y, price)) {
                    return true;
                }
            }
            return false;
        }

        /** Whether there is a row from the one to the other, whatever is in the PURSES. */
        boolean isLinked(Town town) {
            int reached = 1 << from;
            for (int round = 0; round < BEARERS; round++) {
                for (int x = 0; x < town.bearers; x++) {
                    if (hasBit(reached, x) && (x == from || town.kinds[x] != READER)) {
                        reached |= near[x];
                    }
                }
            }
            return hasBit(reached, to);
        }
    }

    /** All rows of BEARERS whose sales fit a ROW of prices, in the order of their numbers. */
    private static final class Fits {
        final int[] walk = new int[BEARERS];
        final int[] firstRow = new int[BEARERS];
        int all;
        int lasts;
        int inEach;

        void search(Town town, int x, Row prices) {
            all = 0;
            lasts = 0;
            inEach = -1;
            walk[0] = x;
            fitOn(town, prices, 0, 1 << x, 0);
        }

        private void fitOn(Town town, Row prices, int sales, int used, int paid) {
            int x = walk[sales];
            if (sales >= prices.size) {
                arrive(x, sales, used);
                return;
            }
            // No READER but the last one: one who sent it, too, if there are sales at all.
            if (town.kinds[x] == READER || prices.places[sales] != priceAsked(town.kinds[x], paid)) {
                return;
            }
            int near = town.near(x, town.now.snow) & ~used;
            int next = sales + 1;
            for (int y = 0; y < town.bearers && next < BEARERS; y++) {
                if (hasBit(near, y)) {
                    walk[next] = y;
                    fitOn(town, prices, next, used | 1 << y, prices.places[sales]);
                }
            }
        }

        private void arrive(int x, int sales, int used) {
            if (all == 0) {
                System.arraycopy(walk, 0, firstRow, 0, sales + 1);
            }
            all++;
            lasts |= 1 << x;
            inEach &= used;
        }
    }
}
