/** The boundary cases of promises 40 to 43: who had it, and days by LOTS. */
public final class EdgesHadTest {
    private static final String TOWN = "b00 b00 m00 b00 w01 w02 w13 w23 w12";

    public static void main(String[] args) {
        refused();
        noPrices();
        sixPrices();
        pricesThatAreNone();
        eachRowOnce();
        readers();
        firstAnew();
        luckRefused();
        luckSeeds();
        luckOfTheLeast();
        luckToDay99();
        luckAndForty();
        luckWithoutAny();
        luckOfFourLetters();
        Due.end("EdgesHadTest");
    }

    private static String row(int r, int... prices) {
        StringBuilder s = new StringBuilder("row " + r + " " + prices.length + " = " + prices.length);
        for (int i = 0; i < prices.length; i++) {
            s.append(";lay ").append(r).append(' ').append(i).append(' ').append(prices[i]).append(" = 1");
        }
        return s.toString();
    }

    private static Calls with(Calls x, int... prices) {
        return x.run(row(0, prices).split(";"));
    }

    private static void refused() {
        Calls x = Calls.in("refused", TOWN);
        with(x, 1);
        x.run("row 1 7 = 7", "row 2 40 = 40");
        for (String name : new String[] {"had", "sure", "first"}) {
            String to = name.equals("first") ? " 4" : "";
            x.run(name + " -1 0" + to + " = BAD", name + " 4 0" + to + " = BAD", name + " MIN 0" + to + " = BAD",
                name + " MAX 0" + to + " = BAD", name + " 0 -1" + to + " = BAD", name + " 0 6" + to + " = BAD",
                name + " 0 MIN" + to + " = BAD", name + " 0 MAX" + to + " = BAD");
            x.run(name + " 4 3" + to + " = BAD", name + " 4 1" + to + " = BAD", name + " 0 3" + to + " = NOTHING",
                name + " 0 5" + to + " = NOTHING", name + " 0 1" + to + " = SIZE", name + " 0 2" + to + " = SIZE");
        }
        x.run("first 0 0 -1 = BAD", "first 0 0 6 = BAD", "first 0 0 MIN = BAD", "first 0 0 MAX = BAD",
            "first 0 3 6 = BAD", "first 0 1 6 = BAD", "first 0 1 -1 = BAD", "first 0 3 3 = NOTHING",
            "first 0 1 1 = SIZE", "first 0 0 5 = 2", "had 0 0 = 2 asked 6", "sure 0 0 = 1");
    }

    private static void noPrices() {
        Calls x = Calls.in("no prices", TOWN);
        with(x);
        for (int k = 0; k < 4; k++) {
            x.run("had " + k + " 0 = 1 asked " + (1 << k), "sure " + k + " 0 = " + (1 << k), "first " + k + " 0 1 = 1",
                "at 1 0 = 1 asked " + k, "at 1 1 = BEYOND");
        }
        Calls one = Calls.in("one alone", "r00");
        with(one);
        one.run("had 0 0 = 1 asked 1", "sure 0 0 = 1", "first 0 0 0 = 1", "at 0 0 = 1 asked 0");
        with(one, 1);
        one.run("had 0 0 = 0 asked 0", "sure 0 0 = 0", "first 0 0 1 = NONE");
    }

    private static void sixPrices() {
        Calls x = Calls.in("six prices", "b00 m00 f00 b00 u00 s00 r00 w01 w12 w23 w34 w45 w56");
        with(x, 1, 4, 4, 5, 16, 0);
        x.run("had 0 0 = 1 asked 64", "sure 0 0 = 127", "first 0 0 1 = 7");
        for (int i = 0; i <= 6; i++) {
            x.run("at 1 " + i + " = 1 asked " + i);
        }
        x.run("at 1 7 = BEYOND", "lay 0 5 1 = 1", "had 0 0 = 0 asked 0", "sure 0 0 = 0", "first 0 0 1 = NONE",
            "at 1 6 = 1 asked 6", "lay 0 5 0 = 1", "had 0 0 = 1 asked 64", "snow 5 1 = 0", "had 0 0 = 0 asked 0");
        with(x, 1, 4, 4, 5, 16);
        x.run("had 0 0 = 1 asked 32", "sure 0 0 = 63", "first 0 0 1 = 6");
        x.run("row 0 7 = 7", "had 0 0 = SIZE", "row 0 6 = 6", "had 0 0 = 0 asked 0");
        // Six sales are among seven; with six BEARERS there are none so long.
        Calls y = Calls.in("six prices among six", "f00 f00 f00 f00 f00 f00 w01 w12 w23 w34 w45 w50");
        with(y, 0, 0, 0, 0, 0, 0);
        y.run("had 0 0 = 0 asked 0", "sure 0 0 = 0", "row 0 5 = 5", "had 0 0 = 2 asked 34", "sure 0 0 = 63",
            "first 0 0 1 = 6", "at 1 1 = 1 asked 1", "at 1 5 = 1 asked 5");
    }

    private static void pricesThatAreNone() {
        Calls x = Calls.in("prices that none asks", TOWN);
        for (int price : new int[] {0, 2, -1, Integer.MIN_VALUE, Integer.MAX_VALUE}) {
            with(x, price);
            x.run("had 0 0 = 0 asked 0", "sure 0 0 = 0", "first 0 0 1 = NONE");
            with(x, 1, price);
            x.run("had 0 0 = " + (price == 2 ? 2 : 0) + " asked " + (price == 2 ? 12 : 0));
        }
        with(x, 3);
        x.run("had 2 0 = 3 asked 11", "had 0 0 = 0 asked 0");
    }

    private static void eachRowOnce() {
        Calls x = Calls.in("two PATHS, one row", "b00 b00 b00 w01 w10 w12 w21");
        with(x, 1, 2);
        x.run("had 0 0 = 1 asked 4", "sure 0 0 = 7", "snow 0 1 = 0", "had 0 0 = 1 asked 4", "snow 1 1 = 0",
            "had 0 0 = 0 asked 0");
        // PURSES and LETTERS stand aside.
        Calls y = Calls.in("PURSES aside", "u00 u00 b00 w01 w12");
        with(y, 6, 18);
        y.run("had 0 0 = 1 asked 4", "purse 1 999 = 0", "had 0 0 = 1 asked 4");
    }

    private static void readers() {
        Calls x = Calls.in("READERS", "b00 r00 b00 w01 w12 w02");
        with(x, 1);
        x.run("had 0 0 = 2 asked 6", "had 1 0 = 0 asked 0", "sure 1 0 = 0", "first 1 0 1 = NONE");
        with(x, 1, 2);
        x.run("had 0 0 = 1 asked 2", "sure 0 0 = 7", "first 0 0 1 = 3", "at 1 1 = 1 asked 2", "at 1 2 = 1 asked 1");
        with(x, 1, 2, 3);
        x.run("had 0 0 = 0 asked 0");
    }

    private static void firstAnew() {
        Calls x = Calls.in("first, anew", TOWN);
        with(x, 1);
        x.run("row 1 40 = 40", "lay 1 2 9 = 1", "lay 1 39 9 = 1", "first 0 0 1 = 2", "at 1 0 = 1 asked 0",
            "at 1 1 = 1 asked 1", "at 1 2 = BEYOND", "row 1 40 = 40", "at 1 2 = 1 asked 0", "first 0 0 5 = 2",
            "at 5 1 = 1 asked 1", "at 0 0 = 1 asked 1", "row 5 0 = 0", "first 0 0 5 = 2");
        with(x, 9);
        x.run("first 0 0 5 = NONE", "at 5 1 = 1 asked 1", "first 0 0 4 = NONE", "at 4 0 = NOTHING");
        with(x, 1, 2);
        x.run("first 0 0 0 = 3", "at 0 0 = 1 asked 0", "at 0 1 = 1 asked 1", "at 0 2 = 1 asked 2");
    }

    private static void luckRefused() {
        Calls x = new Calls("luck");
        x.run("luck 1 1 = STATE", "luck 0 1 = BAD", "luck 41 1 = BAD", "luck 1 0 = BAD", "days 20 4 times = 80",
            "days 19 = 99", "luck 1 1 = STATE", "luck 40 1 = STATE", "write 0 b10 b10 w01 = 11", "town 0 = 2",
            "send 0 1 9 0 = 0");
        x.run("luck 0 1 = BAD", "luck -1 1 = BAD", "luck 41 1 = BAD", "luck MIN 1 = BAD", "luck MAX 1 = BAD",
            "luck 1 0 = BAD", "luck 1 -1 = BAD", "luck 1 MIN = BAD", "luck 1 MAX = BAD", "luck 0 0 = BAD");
        x.run("days 20 4 times = 80", "luck 20 1 = FULL", "luck 40 1 = FULL", "luck 41 1 = BAD", "luck 20 0 = BAD",
            "days 19 = 99", "luck 1 1 = FULL", "luck 40 2147483646 = FULL", "count 4 = 0");
    }

    /** The first number comes from the seed by 48271: of three buyers the one at it modulo 3. */
    private static void luckSeeds() {
        int[] seeds = {1, 2, 3, 16807, 44488, 44489, 2147483645, 2147483646};
        for (int seed : seeds) {
            long lot = java.math.BigInteger.valueOf(seed).multiply(java.math.BigInteger.valueOf(48271))
                .mod(java.math.BigInteger.valueOf(2147483647)).longValueExact();
            Calls x = Calls.in("luck of " + seed, "b00 b09 b00 b09 b00 b09 b09 w01 w02 w03 w05");
            x.run("send 0 6 9 0 = 0", "luck 1 " + seed + " = 0", "where 0 = " + (1 + 2 * (lot % 3)) + " asked 1",
                "count 2 = 1", "count 4 = 1");
        }
    }

    /** Of two buyers the least is first, BEARER 0 too; 48271 is odd, twice that is not. */
    private static void luckOfTheLeast() {
        Calls x = Calls.in("the least first", "b09 b09 b09 b00 w21 w20 w23");
        x.run("send 2 3 9 0 = 0", "can 0 = 3", "luck 1 1 = 0", "where 0 = 1 asked 1", "undo 0 = 1", "luck 1 2 = 0",
            "where 0 = 0 asked 1", "undo 0 = 1", "snow 0 1 = 0", "luck 1 1 = 0", "where 0 = 0 asked 1");
    }

    private static void luckToDay99() {
        Calls x = Calls.in("luck to DAY 99", "b99 b99 b00 w01");
        x.run("send 0 2 9 0 = 0", "days 20 3 times = 60", "luck 40 1 = FULL", "luck 39 1 = 0", "count 2 = 99",
            "count 4 = 39", "luck 1 1 = FULL", "days 1 = FULL", "sell 0 0 = 40", "count 4 = 40", "sell 0 1 = STATE");
        Calls.in("luck from DAY 59", "b10 b10").run("days 20 2 times = 40", "days 19 = 59", "luck 40 2147483646 = 0",
            "count 2 = 99");
        Calls.in("luck of one DAY to 99", "b10 b10").run("days 20 4 times = 80", "days 18 = 98", "luck 2 1 = FULL",
            "luck 1 1 = 0", "count 2 = 99");
    }

    private static void luckAndForty() {
        // Of two LETTERS on a DAY the first one is the fortieth sale, the second one would be the forty-first.
        Calls x = Calls.in("luck and forty sales", "f00 f00 b00 w01");
        x.run("send 0 2 9 0 = 0", "luck 19 1 = 0", "count 4 = 19", "send 1 2 9 0 = 1", "luck 10 1 = 0", "count 4 = 39",
            "count 2 = 29", "luck 5 1 = 0", "count 4 = 40", "count 2 = 29", "letter 0 4 = 1 asked 30",
            "letter 1 4 = 1 asked 10", "luck 1 1 = 0", "count 2 = 29", "undo 39 = 1", "luck 1 1 = 0", "count 4 = 40",
            "count 2 = 29", "letter 0 4 = 1 asked 30");
        x.run("days 1 = 30", "luck 40 1 = 0", "count 2 = 30", "snow 0 1 = 0", "luck 40 1 = 0", "count 2 = 70",
            "count 4 = 40");
        // The fortieth sale itself is counted, if it is READ.
        Calls y = Calls.in("luck and the fortieth READ", "f00 f00 f00 f00 w01 w23");
        y.run("send 0 3 9 0 = 0", "luck 39 1 = 0", "count 4 = 39", "send 2 3 9 0 = 1", "snow 0 1 = 0", "luck 1 1 = 1",
            "count 4 = 40", "count 2 = 40", "snow 0 0 = 1", "luck 1 1 = 0", "count 2 = 40");
    }

    private static void luckWithoutAny() {
        Calls x = Calls.in("luck without any", "b10 b10 w01");
        x.run("luck 1 1 = 0", "count 2 = 1", "send 0 1 0 0 = 0", "luck 3 1 = 0", "count 2 = 4", "count 4 = 0",
            "send 0 1 1 0 = 1", "luck 1 1 = 1", "count 2 = 5", "letter 1 3 = 1 asked 1", "luck 1 1 = 0",
            "count 4 = 1");
        // Without any buyers no number is taken: the second one's number is the first lot, 48271.
        Calls y = Calls.in("luck, no number without any", "b10 b10 b10 b00 w01 w02");
        y.run("send 3 0 9 0 = 0", "send 0 3 9 0 = 1", "luck 1 1 = 0", "where 0 = 3 asked 0",
            "where 1 = " + (1 + 48271 % 2) + " asked 1");
    }

    private static void luckOfFourLetters() {
        Calls x = Calls.in("luck of four, one already sold today", "b50 b50 w01");
        x.run("send 0 1 9 0 = 0", "send 0 1 9 0 = 1", "send 0 1 9 0 = 2", "send 0 1 9 0 = 3", "sell 1 1 = 1001",
            "luck 1 7 = 3", "count 4 = 4", "count 2 = 1", "bearer 0 1 = 1 asked 54", "undo 1 = 3",
            "letter 0 3 = 1 asked 0", "letter 1 3 = 1 asked 1");
        Calls y = Calls.in("luck as the PURSE holds", "b50 b03 w01");
        y.run("send 0 1 9 0 = 0", "send 0 1 9 0 = 1", "send 0 1 9 0 = 2", "send 0 1 9 0 = 3", "luck 1 7 = 3",
            "count 4 = 3", "letter 3 3 = 1 asked 0", "bearer 1 1 = 1 asked 0", "luck 5 7 = 0", "count 2 = 6");
    }
}
