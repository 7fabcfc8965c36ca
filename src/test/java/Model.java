import java.util.ArrayList;
import java.util.List;
import java.util.function.IntSupplier;
import java.util.regex.Matcher;
import java.util.regex.Pattern;

/**
 * The document once more, as plainly as it can be written: whole states are copied, all rows of unlike BEARERS are
 * made and then looked at. RandomRunsTest holds the class against it.
 */
final class Model {
    private static final int BAD = -1, FULL = -2, STATE = -4, NONE = -9;
    private static final String SIGNS = "bmfrus";

    private static final class Refused extends RuntimeException {
        private static final long serialVersionUID = 1L;
        final int answer;
        final int finding;

        Refused(int answer, int finding) {
            super(null, null, false, false);
            this.answer = answer;
            this.finding = finding;
        }
    }

    private record Letter(int from, int to, int worth, int fall, int sentOn, int has, int paid, int soldOn, int sold,
        boolean read) {
        int worthOn(int day) {
            return Math.max(0, worth - fall * (day - sentOn));
        }

        Letter soldTo(int x, int price, int day) {
            return new Letter(from, to, worth, fall, sentOn, x, price, day, sold + 1, x == to);
        }
    }

    private record State(List<Integer> purses, List<Boolean> snow, List<Letter> letters, int day) {
        State copy() {
            return new State(new ArrayList<>(purses), new ArrayList<>(snow), new ArrayList<>(letters), day);
        }

        State onDay(int d) {
            return new State(purses, snow, letters, d);
        }
    }

    private record Sale(int letter, int seller, int buyer, int price, Letter ahead, List<Integer> pursesAhead) {
    }

    private record Route(List<Integer> row, int price, boolean comes, int need) {
        int sales() {
            return row.size() - 1;
        }
    }

    private final int[][] rows = new int[6][];
    private final byte[][] texts = new byte[4][];
    private final State[] kept = new State[3];
    private final List<Integer> kinds = new ArrayList<>();
    private final List<int[]> paths = new ArrayList<>();
    private final List<Sale> sales = new ArrayList<>();
    private final int[] findings = new int[6];
    private State now = new State(new ArrayList<>(), new ArrayList<>(), new ArrayList<>(), 0);
    private int finding;
    private int told;

    int call(IntSupplier call) {
        try {
            return call.getAsInt();
        } catch (Refused refused) {
            if (refused.finding != 0) {
                finding = refused.finding;
                findings[finding]++;
            }
            return refused.answer;
        }
    }

    private static void unless(boolean fine, int answer) {
        if (!fine) {
            throw new Refused(answer, 0);
        }
    }

    private static void find(boolean fine, int which) {
        if (!fine) {
            throw new Refused(-3, which);
        }
    }

    private static boolean in(int v, int least, int most) {
        return least <= v && v <= most;
    }

    private boolean bearerIs(int x) {
        return in(x, 0, kinds.size() - 1);
    }

    private int tell(int v) {
        told = v;
        return 1;
    }

    int row(int r, int n) {
        unless(in(r, 0, 5) && n <= 40, BAD);
        find(n >= 0, 5);
        rows[r] = new int[n];
        return n;
    }

    private int[] rowAt(int r) {
        unless(in(r, 0, 5), BAD);
        find(rows[r] != null, 1);
        return rows[r];
    }

    int lay(int r, int i, int v) {
        int[] row = rowAt(r);
        find(in(i, 0, row.length - 1), 2);
        int was = row[i];
        row[i] = v;
        return tell(was);
    }

    int at(int r, int i) {
        int[] row = rowAt(r);
        find(in(i, 0, row.length - 1), 2);
        return tell(row[i]);
    }

    int tear(int r) {
        rowAt(r);
        rows[r] = null;
        return 1;
    }

    int copy(int r, int i, int to, int j, int n) {
        unless(in(r, 0, 5) && in(to, 0, 5), BAD);
        find(n >= 0, 5);
        find(rows[r] != null && rows[to] != null, 1);
        find(i >= 0 && j >= 0 && (long) i + n <= rows[r].length && (long) j + n <= rows[to].length, 2);
        int[] taken = rows[r].clone();
        for (int m = 0; m < n; m++) {
            rows[to][j + m] = taken[i + m];
        }
        return 1;
    }

    int mean(int r) {
        int[] row = rowAt(r);
        find(row.length > 0, 4);
        long sum = 0;
        for (int v : row) {
            sum += v;
        }
        return tell((int) (sum / row.length));
    }

    int text(int t, int n) {
        unless(in(t, 0, 3) && n <= 80, BAD);
        find(n >= 0, 5);
        texts[t] = " ".repeat(n).getBytes(java.nio.charset.StandardCharsets.ISO_8859_1);
        return n;
    }

    private byte[] textAt(int t) {
        unless(in(t, 0, 3), BAD);
        find(texts[t] != null, 1);
        return texts[t];
    }

    int put(int t, int i, int v) {
        byte[] text = textAt(t);
        find(in(i, 0, text.length - 1), 2);
        int was = text[i];
        text[i] = (byte) v;
        return 1000 + was;
    }

    /** The longest beginning that can be gone on with to a TOWN ends where the FAULT is. */
    int fault(int t) {
        String s = new String(textAt(t), java.nio.charset.StandardCharsets.ISO_8859_1);
        if (isTown(s)) {
            return NONE;
        }
        for (int n = s.length(); n > 0; n--) {
            if (canGoOn(s.substring(0, n))) {
                return n;
            }
        }
        return 0;
    }

    /** A whole TOWN, or one with a begun item behind it; of a begun PATH only what is there is looked at. */
    private static boolean canGoOn(String s) {
        if (isTown(s)) {
            return true;
        }
        for (int open = 1; open <= Math.min(2, s.length()); open++) {
            String head = s.substring(0, s.length() - open);
            String item = s.substring(s.length() - open);
            if (!isTown(head)) {
                continue;
            }
            long pathsAhead = head.chars().filter(c -> c == 'w').count();
            long bearers = items(head).size() - pathsAhead;
            boolean path = item.charAt(0) == 'w' && pathsAhead < 12
                && (open == 1 || item.charAt(1) >= '0' && item.charAt(1) < '0' + bearers);
            if (path || item.charAt(0) != 'w' && isTown(s + "00".substring(open - 1))) {
                return true;
            }
        }
        return false;
    }

    private static boolean isTown(String s) {
        Matcher whole = Pattern.compile(" *((?:[bmfrus][0-9]{2} *){0,7})((?:w[0-9]{2} *){0,12})").matcher(s);
        if (!whole.matches()) {
            return false;
        }
        int bearers = items(whole.group(1)).size();
        for (String path : items(whole.group(2))) {
            int one = path.charAt(1) - '0';
            int other = path.charAt(2) - '0';
            if (one >= bearers || other >= bearers || one == other) {
                return false;
            }
        }
        return true;
    }

    private static List<String> items(String s) {
        String close = s.replace(" ", "");
        List<String> items = new ArrayList<>();
        for (int i = 0; i + 3 <= close.length(); i += 3) {
            items.add(close.substring(i, i + 3));
        }
        return items;
    }

    int town(int t) {
        String s = new String(textAt(t), java.nio.charset.StandardCharsets.ISO_8859_1);
        unless(isTown(s), STATE);
        kinds.clear();
        paths.clear();
        sales.clear();
        java.util.Arrays.fill(kept, null);
        now = new State(new ArrayList<>(), new ArrayList<>(), new ArrayList<>(), 0);
        for (String item : items(s)) {
            if (item.charAt(0) == 'w') {
                paths.add(new int[] {item.charAt(1) - '0', item.charAt(2) - '0'});
                now.snow.add(false);
            } else {
                kinds.add(SIGNS.indexOf(item.charAt(0)));
                now.purses.add(Integer.parseInt(item.substring(1)));
            }
        }
        return kinds.size();
    }

    private boolean areBeside(int x, int y, List<Boolean> snow) {
        for (int i = 0; i < paths.size(); i++) {
            int[] p = paths.get(i);
            if (!snow.get(i) && (p[0] == x && p[1] == y || p[0] == y && p[1] == x)) {
                return true;
            }
        }
        return false;
    }

    private int askedBy(int x, int paid) {
        return new int[] {paid + 1, paid + 3, paid, paid + 1, 2 * (paid + 3), 0}[kinds.get(x)];
    }

    private int bearerFact(int x, int what) {
        return switch (what) {
            case 0 -> kinds.get(x);
            case 1 -> now.purses.get(x);
            case 2 -> Integer.bitCount(besides(x));
            default -> (int) now.letters.stream().filter(l -> l.has == x && !l.read).count();
        };
    }

    private int besides(int x) {
        int bits = 0;
        for (int y = 0; y < kinds.size(); y++) {
            bits |= areBeside(x, y, now.snow) ? 1 << y : 0;
        }
        return bits;
    }

    int bearer(int x, int what) {
        unless(bearerIs(x) && in(what, 0, 3), BAD);
        return tell(bearerFact(x, what));
    }

    int mark(int x, int kind) {
        unless(bearerIs(x) && in(kind, 1, 5), BAD);
        int own = kinds.get(x);
        find(own == kind || own == 4 && kind == 1 || own == 5 && kind == 2, 3);
        int friends = 0;
        for (int y = 0; y < kinds.size(); y++) {
            friends += areBeside(x, y, now.snow) && (kinds.get(y) == 2 || kinds.get(y) == 5) ? 1 : 0;
        }
        return switch (kind) {
            case 1 -> askedBy(x, 0) - 1;
            case 2 -> friends;
            case 3 -> (int) now.letters.stream().filter(l -> l.to == x && !l.read).count();
            case 4 -> 26;
            default -> now.letters.stream().filter(l -> l.has == x && !l.read).mapToInt(l -> l.paid).sum();
        };
    }

    int purse(int x, int v) {
        unless(bearerIs(x) && in(v, 0, 999), BAD);
        return now.purses.set(x, v);
    }

    int snow(int i, int is) {
        unless(in(i, 0, paths.size() - 1) && in(is, 0, 1), BAD);
        return now.snow.set(i, is == 1) ? 1 : 0;
    }

    int asks(int x, int p) {
        unless(bearerIs(x) && in(p, 0, 999), BAD);
        return askedBy(x, p);
    }

    int beside(int x) {
        unless(bearerIs(x), BAD);
        return besides(x);
    }

    int send(int x, int y, int worth, int fall) {
        unless(bearerIs(x) && bearerIs(y) && x != y && in(worth, 0, 99) && in(fall, 0, 9), BAD);
        unless(now.letters.size() < 4, FULL);
        now.letters.add(new Letter(x, y, worth, fall, now.day, x, 0, -1, 0, false));
        return now.letters.size() - 1;
    }

    private Letter letterAt(int k, boolean elseFine) {
        unless(k >= 0 && elseFine, BAD);
        find(k < now.letters.size(), 2);
        return now.letters.get(k);
    }

    private boolean canBuy(Letter l, int x) {
        int price = askedBy(l.has, l.paid);
        return !l.read && l.soldOn != now.day && areBeside(l.has, x, now.snow) && now.purses.get(x) >= price
            && (x != l.to || l.worthOn(now.day) >= price) && (x == l.to || kinds.get(x) != 3);
    }

    private int buyers(Letter l) {
        int bits = 0;
        for (int x = 0; x < kinds.size(); x++) {
            bits |= canBuy(l, x) ? 1 << x : 0;
        }
        return bits;
    }

    private int make(int k, int x) {
        Letter l = now.letters.get(k);
        int price = askedBy(l.has, l.paid);
        sales.add(new Sale(k, l.has, x, price, l, new ArrayList<>(now.purses)));
        now.purses.set(x, now.purses.get(x) - price);
        now.purses.set(l.has, now.purses.get(l.has) + price);
        now.letters.set(k, l.soldTo(x, price, now.day));
        return price;
    }

    int sell(int k, int x) {
        Letter l = letterAt(k, bearerIs(x));
        unless(canBuy(l, x), STATE);
        unless(sales.size() < 40, FULL);
        return make(k, x) + (x == l.to ? 1000 : 0);
    }

    int days(int n) {
        unless(in(n, 0, 20), BAD);
        unless(now.day + n <= 99, FULL);
        now = now.onDay(now.day + n);
        return now.day;
    }

    int where(int k) {
        Letter l = letterAt(k, true);
        tell(l.paid);
        return l.has;
    }

    private int[] facts(Letter l) {
        return new int[] {l.from, l.to, l.worthOn(now.day), l.read ? 1 : 0, l.sold};
    }

    int letter(int k, int what) {
        return tell(facts(letterAt(k, in(what, 0, 4)))[what]);
    }

    int can(int k) {
        return buyers(letterAt(k, true));
    }

    int undo(int n) {
        unless(in(n, 0, sales.size()), BAD);
        int undone = 0;
        while (sales.size() > n) {
            Sale sale = sales.remove(sales.size() - 1);
            now.letters.set(sale.letter, sale.ahead);
            now = new State(new ArrayList<>(sale.pursesAhead), now.snow, now.letters, now.day);
            undone++;
        }
        return undone;
    }

    int keep(int k) {
        unless(in(k, 0, 2), BAD);
        unless(!kinds.isEmpty(), STATE);
        kept[k] = now.copy();
        return now.day;
    }

    int on(int k) {
        unless(in(k, 0, 2), BAD);
        find(kept[k] != null, 1);
        now = kept[k].copy();
        sales.clear();
        return now.day;
    }

    /** All rows of unlike BEARERS that begin so, whatever is between them, in the order of their numbers. */
    private List<List<Integer>> rowsFrom(List<Integer> begun) {
        List<List<Integer>> all = new ArrayList<>();
        all.add(begun);
        for (int y = 0; y < kinds.size(); y++) {
            if (!begun.contains(y)) {
                List<Integer> longer = new ArrayList<>(begun);
                longer.add(y);
                all.addAll(rowsFrom(longer));
            }
        }
        return all;
    }

    private boolean isLine(List<Integer> row, List<Boolean> snow) {
        for (int i = 1; i < row.size(); i++) {
            if (!areBeside(row.get(i - 1), row.get(i), snow)) {
                return false;
            }
        }
        return true;
    }

    private List<List<Integer>> lines(int from, int to) {
        List<List<Integer>> lines = new ArrayList<>();
        for (List<Integer> row : rowsFrom(List.of(from))) {
            boolean fits = row.get(row.size() - 1) == to && isLine(row, now.snow);
            for (int i = 1; i < row.size() - 1; i++) {
                fits &= kinds.get(row.get(i)) != 3;
            }
            if (fits) {
                lines.add(row);
            }
        }
        return lines;
    }

    private List<Route> routes(Letter l, List<Integer> purses) {
        List<Route> routes = new ArrayList<>();
        int start = l.soldOn == now.day ? now.day + 1 : now.day;
        for (List<Integer> row : lines(l.has, l.to)) {
            int price = l.paid;
            boolean paid = true;
            for (int i = 1; i < row.size(); i++) {
                price = askedBy(row.get(i - 1), price);
                paid &= purses.get(row.get(i)) >= price;
            }
            if (paid) {
                int last = start + row.size() - 2;
                int need = NONE;
                for (int worth = 0; worth <= 999 && need == NONE; worth++) {
                    need = Math.max(0, worth - l.fall * (last - now.day)) >= price ? worth : NONE;
                }
                routes.add(new Route(row, price, l.worthOn(last) >= price, need));
            }
        }
        return routes;
    }

    private static Route cheapestOf(List<Route> routes) {
        Route best = null;
        for (Route route : routes) {
            if (best == null || route.price < best.price || route.price == best.price && route.sales() < best.sales()) {
                best = route;
            }
        }
        return best;
    }

    private Letter unread(int k, boolean elseFine) {
        Letter l = letterAt(k, elseFine);
        unless(!l.read, STATE);
        return l;
    }

    private void fill(int r, List<Integer> row) {
        rows[r] = row.stream().mapToInt(v -> v).toArray();
    }

    int cheapest(int k, int r) {
        Route best = cheapestOf(routes(unread(k, in(r, 0, 5)), now.purses));
        unless(best != null, NONE);
        fill(r, best.row);
        return best.price;
    }

    private List<Route> coming(int k) {
        return routes(unread(k, true), now.purses).stream().filter(Route::comes).toList();
    }

    int soonest(int k, int r) {
        unread(k, in(r, 0, 5));
        Route best = null;
        for (Route route : coming(k)) {
            if (best == null || route.sales() < best.sales()
                || route.sales() == best.sales() && route.price < best.price) {
                best = route;
            }
        }
        unless(best != null, NONE);
        fill(r, best.row);
        tell(best.price);
        return best.sales();
    }

    int comes(int k) {
        int coming = coming(k).size();
        tell(routes(now.letters.get(k), now.purses).size());
        return coming;
    }

    int bars(int k) {
        List<Route> coming = coming(k);
        int bits = 0;
        for (int x = 0; x < kinds.size(); x++) {
            int y = x;
            boolean end = x == now.letters.get(k).has || x == now.letters.get(k).to;
            bits |= !end && !coming.isEmpty() && coming.stream().allMatch(r -> r.row.contains(y)) ? 1 << x : 0;
        }
        return bits;
    }

    int why(int k) {
        Letter l = unread(k, true);
        if (!coming(k).isEmpty()) {
            return 0;
        }
        return lines(l.has, l.to).isEmpty() ? 1 : routes(l, now.purses).isEmpty() ? 2 : 3;
    }

    int needs(int k) {
        int least = NONE;
        for (Route route : routes(unread(k, true), now.purses)) {
            if (route.need != NONE && (least == NONE || route.need < least)) {
                least = route.need;
            }
        }
        return least;
    }

    int lend(int k) {
        Letter l = unread(k, true);
        int who = NONE;
        int least = 0;
        for (int x = 0; x < kinds.size(); x++) {
            boolean between = x != l.has && x != l.to && kinds.get(x) != 3;
            List<Integer> purses = new ArrayList<>(now.purses);
            purses.set(x, 99);
            Route best = between || x == l.to ? cheapestOf(routes(l, purses)) : null;
            if (best != null && (who == NONE || best.price < least)) {
                who = x;
                least = best.price;
            }
        }
        unless(who != NONE, NONE);
        tell(least);
        return who;
    }

    int block(int k) {
        List<Route> coming = coming(k);
        int fewest = 99;
        int which = 0;
        for (int bits = 0; bits < 1 << paths.size(); bits++) {
            List<Boolean> snow = new ArrayList<>(now.snow);
            for (int i = 0; i < paths.size(); i++) {
                snow.set(i, snow.get(i) || (bits >> i & 1) == 1);
            }
            if (Integer.bitCount(bits) < fewest && coming.stream().noneMatch(r -> isLine(r.row, snow))) {
                fewest = Integer.bitCount(bits);
                which = bits;
            }
        }
        tell(which);
        return fewest;
    }

    int worth(int k, int x, int d) {
        return worthIn(unread(k, bearerIs(x) && in(d, 0, 20)), x, d, new Integer[kinds.size()][21]);
    }

    private int worthIn(Letter l, int x, int d, Integer[][] known) {
        if (x == l.to) {
            return l.worthOn(now.day + d);
        }
        if (d == 20) {
            return 0;
        }
        if (known[x][d] == null) {
            int most = 0;
            for (int y = 0; y < kinds.size(); y++) {
                if (areBeside(x, y, now.snow) && (y == l.to || kinds.get(y) != 3)) {
                    most = Math.max(most, worthIn(l, y, d + 1, known) - 1);
                }
            }
            known[x][d] = most;
        }
        return known[x][d];
    }

    int bundle(int x) {
        unless(bearerIs(x), BAD);
        int most = 0;
        int which = 0;
        for (int bits = 1; bits < 1 << now.letters.size(); bits++) {
            boolean fine = true;
            int sum = 0;
            for (int k = 0; k < now.letters.size(); k++) {
                if ((bits >> k & 1) == 1) {
                    Letter l = now.letters.get(k);
                    fine &= canBuy(l, x);
                    sum += askedBy(l.has, l.paid);
                }
            }
            if (fine && sum <= now.purses.get(x) && Integer.bitCount(bits) > most) {
                most = Integer.bitCount(bits);
                which = bits;
            }
        }
        tell(which);
        return most;
    }

    private Route cheapestNew(int x, int y) {
        return cheapestOf(routes(new Letter(x, y, 0, 0, now.day, x, 0, -1, 0, false), now.purses));
    }

    int post(int v) {
        unless(in(v, 0, 99), BAD);
        int cheaper = 0;
        int none = 0;
        for (int x = 0; x < kinds.size(); x++) {
            for (int y = 0; y < kinds.size(); y++) {
                Route best = x == y ? null : cheapestNew(x, y);
                none += x != y && best == null ? 1 : 0;
                cheaper += x != y && (best == null || v < best.price) ? 1 : 0;
            }
        }
        tell(none);
        return cheaper;
    }

    int fake(int x, int y, int w) {
        unless(bearerIs(x) && bearerIs(y) && x != y && in(w, 0, 99), BAD);
        Route best = cheapestNew(x, y);
        return best != null && best.price <= w ? best.price : 0;
    }

    int gain(int x) {
        unless(bearerIs(x), BAD);
        int sum = 0;
        for (Sale sale : sales) {
            sum += (sale.seller == x ? sale.price : 0) - (sale.buyer == x ? sale.price : 0);
        }
        return tell(sum);
    }

    private List<List<Integer>> fits(int x, int r, boolean elseFine) {
        unless(bearerIs(x) && elseFine, BAD);
        int[] prices = rowAt(r);
        find(prices.length <= 6, 5);
        List<List<Integer>> fits = new ArrayList<>();
        for (List<Integer> row : rowsFrom(List.of(x))) {
            boolean fit = row.size() == prices.length + 1 && isLine(row, now.snow);
            int price = 0;
            for (int i = 0; fit && i < prices.length; i++) {
                price = askedBy(row.get(i), price);
                fit = price == prices[i] && kinds.get(row.get(i)) != 3;
            }
            if (fit) {
                fits.add(row);
            }
        }
        return fits;
    }

    int had(int x, int r) {
        List<List<Integer>> fits = fits(x, r, true);
        int lasts = 0;
        for (List<Integer> row : fits) {
            lasts |= 1 << row.get(row.size() - 1);
        }
        tell(lasts);
        return fits.size();
    }

    int sure(int x, int r) {
        List<List<Integer>> fits = fits(x, r, true);
        int bits = 0;
        for (int y = 0; y < kinds.size(); y++) {
            int z = y;
            bits |= !fits.isEmpty() && fits.stream().allMatch(row -> row.contains(z)) ? 1 << y : 0;
        }
        return bits;
    }

    int first(int x, int r, int to) {
        List<List<Integer>> fits = fits(x, r, in(to, 0, 5));
        unless(!fits.isEmpty(), NONE);
        fill(to, fits.get(0));
        return fits.get(0).size();
    }

    int luck(int n, int seed) {
        unless(in(n, 1, 40) && in(seed, 1, 2147483646), BAD);
        unless(!kinds.isEmpty(), STATE);
        unless(now.day + n <= 99, FULL);
        long lot = seed;
        int read = 0;
        for (int i = 0; i < n; i++) {
            for (int k = 0; k < now.letters.size(); k++) {
                List<Integer> able = new ArrayList<>();
                for (int x = 0; x < kinds.size(); x++) {
                    if (canBuy(now.letters.get(k), x)) {
                        able.add(x);
                    }
                }
                if (!able.isEmpty()) {
                    if (sales.size() == 40) {
                        return read;
                    }
                    lot = 48271 * lot % 2147483647L;
                    make(k, able.get((int) (lot % able.size())));
                    read += now.letters.get(k).read ? 1 : 0;
                }
            }
            now = now.onDay(now.day + 1);
        }
        return read;
    }

    int asked() {
        return told;
    }

    private int[] part() {
        int most = now.purses.stream().mapToInt(v -> v).max().orElse(0);
        int sum = now.purses.stream().mapToInt(v -> v).sum();
        for (int d = sum; d > 1; d--) {
            if (most % d == 0 && sum % d == 0) {
                return new int[] {most / d, sum / d};
            }
        }
        return sum == 0 ? new int[] {0, 1} : new int[] {most, sum};
    }

    int upper() {
        return part()[0];
    }

    int lower() {
        return part()[1];
    }

    private static int there(Object[] places) {
        int there = 0;
        for (Object place : places) {
            there += place != null ? 1 : 0;
        }
        return there;
    }

    int count(int what) {
        unless(in(what, 0, 8), BAD);
        int snow = (int) now.snow.stream().filter(is -> is).count();
        return new int[] {kinds.size(), paths.size(), now.day, now.letters.size(), sales.size(), snow, there(rows),
            there(texts), there(kept)}[what];
    }

    int finding() {
        return finding;
    }

    int findings(int f) {
        unless(in(f, 1, 5), BAD);
        return findings[f];
    }

    long digest() {
        List<Integer> all = new ArrayList<>();
        for (int what = 0; what <= 8; what++) {
            all.add(count(what));
        }
        for (int x = 0; x < kinds.size(); x++) {
            for (int what = 0; what <= 3; what++) {
                all.add(bearerFact(x, what));
            }
        }
        for (int i = 0; i < paths.size(); i++) {
            all.addAll(List.of(paths.get(i)[0], paths.get(i)[1], now.snow.get(i) ? 1 : 0));
        }
        for (Letter l : now.letters) {
            for (int fact : facts(l)) {
                all.add(fact);
            }
            all.addAll(List.of(l.has, l.paid));
        }
        for (State state : kept) {
            all.add(state == null ? -1 : state.day);
        }
        for (int[] row : rows) {
            all.add(row == null ? -1 : row.length);
            for (int i = 0; row != null && i < row.length; i++) {
                all.add(row[i]);
            }
        }
        for (byte[] text : texts) {
            all.add(text == null ? -1 : text.length);
            for (int i = 0; text != null && i < text.length; i++) {
                all.add((int) text[i]);
            }
        }
        long h = 17;
        for (int v : all) {
            h = 31 * h + v;
        }
        return h;
    }
}
