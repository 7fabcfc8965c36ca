/** The boundary cases of promises 44 to 50: what is told. */
public final class EdgesToldTest {
    public static void main(String[] args) {
        askedStays();
        askedByNone();
        parts();
        count();
        findings();
        findingsStay();
        digestOfFull();
        Due.end("EdgesToldTest");
    }

    /** Each call that tells something is refused behind another one that told 7. */
    private static void askedStays() {
        Calls x = Calls.in("asked() stays", "b10 b10 b07 w01 w12");
        x.run("asked = 0", "send 0 2 50 0 = 0", "row 0 7 = 7", "row 1 0 = 0", "bearer 2 1 = 1 asked 7");
        x.run("lay 6 0 1 = BAD", "lay 2 0 1 = NOTHING", "lay 0 7 1 = BEYOND", "at 6 0 = BAD", "at 2 0 = NOTHING",
            "at 0 7 = BEYOND", "mean 6 = BAD", "mean 2 = NOTHING", "mean 1 = NOUGHT", "bearer 3 0 = BAD",
            "bearer 0 4 = BAD", "where -1 = BAD", "where 1 = BEYOND", "letter 0 5 = BAD", "letter 1 0 = BEYOND",
            "asked = 7");
        x.run("soonest 0 6 = BAD", "soonest 1 0 = BEYOND", "comes -1 = BAD", "comes 1 = BEYOND", "lend -1 = BAD",
            "lend 1 = BEYOND", "block -1 = BAD", "block 1 = BEYOND", "bundle 3 = BAD", "post 100 = BAD", "gain 3 = BAD",
            "had 3 0 = BAD", "had 0 2 = NOTHING", "had 0 0 = SIZE", "asked = 7");
        x.run("send 0 1 50 0 = 1", "sell 1 1 = 1001", "soonest 1 0 = STATE", "comes 1 = STATE", "lend 1 = STATE",
            "block 1 = STATE", "asked = 7");
        // Those that tell nothing by asked() leave it as it is.
        x.run("row 0 2 = 2", "tear 0 = 1", "row 0 0 = 0", "copy 0 0 0 0 0 = 1", "text 0 1 = 1", "put 0 0 0 = 1032",
            "fault 0 = 0", "purse 0 9 = 11", "snow 0 0 = 0", "asks 0 9 = 10", "beside 0 = 2", "can 0 = 2", "keep 0 = 0",
            "on 0 = 0", "undo 0 = 0", "days 1 = 1", "cheapest 0 0 = 2", "bars 0 = 2", "why 0 = 0", "needs 0 = 2",
            "worth 0 2 0 = 50", "fake 0 1 9 = 1", "row 0 0 = 0", "sure 0 0 = 1", "first 0 0 1 = 1", "luck 1 1 = 0",
            "upper = 2", "lower = 5", "count 0 = 3", "finding = 5", "findings 1 = 4", "asked = 7", "town 3 = 3",
            "asked = 7");
    }

    private static void askedByNone() {
        Calls x = Calls.in("asked() behind NONE", "b10 b10 b07");
        x.run("send 0 2 50 0 = 0", "bearer 2 1 = 1 asked 7", "cheapest 0 0 = NONE", "soonest 0 0 = NONE",
            "needs 0 = NONE", "lend 0 = NONE", "asked = 7", "row 0 1 = 1", "first 0 0 1 = NONE", "asked = 7",
            "had 0 0 = 0 asked 0", "bearer 2 1 = 1 asked 7", "comes 0 = 0 asked 0", "bearer 2 1 = 1 asked 7",
            "block 0 = 0 asked 0", "bearer 2 1 = 1 asked 7", "bundle 0 = 0 asked 0");
        x.run("row 0 1 = 1", "lay 0 0 MIN = 1", "at 0 0 = 1 asked -2147483648", "lay 0 0 MAX = 1 asked -2147483648",
            "mean 0 = 1 asked 2147483647");
    }

    private static void parts() {
        new Calls("no BEARERS").run("upper = 0", "lower = 1");
        Calls.in("one empty", "b00").run("upper = 0", "lower = 1", "purse 0 1 = 0", "upper = 1", "lower = 1",
            "purse 0 999 = 1", "upper = 1", "lower = 1");
        Calls x = Calls.in("parts", "b00 b00 b00 b00 b00 b00 b00");
        x.run("upper = 0", "lower = 1", "purse 6 1 = 0", "upper = 1", "lower = 1", "purse 0 1 = 0", "upper = 1",
            "lower = 2", "purse 3 2 = 0", "upper = 1", "lower = 2", "purse 3 3 = 2", "upper = 3", "lower = 5");
        for (int k = 0; k < 7; k++) {
            x.run("purse " + k + " 999 = " + (k == 0 || k == 6 ? 1 : k == 3 ? 3 : 0));
        }
        x.run("upper = 1", "lower = 7", "purse 0 998 = 999", "upper = 999", "lower = 6992", "purse 0 0 = 998",
            "upper = 1", "lower = 6");
        Calls.in("a PURSE above 999", "b99 b05 w01").run("purse 0 999 = 99", "purse 1 1 = 5", "send 0 1 9 0 = 0",
            "sell 0 1 = 1001", "upper = 1", "lower = 1", "purse 1 500 = 0", "upper = 2", "lower = 3");
    }

    private static void count() {
        Calls x = Calls.in("count", "b20 b30 b10 w01 w12 w02 w12");
        x.run("count -1 = BAD", "count 9 = BAD", "count MIN = BAD", "count MAX = BAD", "count 0 = 3", "count 1 = 4",
            "count 2 = 0", "count 3 = 0", "count 4 = 0", "count 5 = 0", "count 6 = 0", "count 7 = 1", "count 8 = 0");
        x.run("days 20 4 times = 80", "days 19 = 99", "count 2 = 99", "send 0 1 9 0 = 0", "count 3 = 1",
            "sell 0 1 = 1001", "count 4 = 1", "count 3 = 1", "snow 3 1 = 0", "snow 3 1 = 1", "count 5 = 1",
            "row 5 0 = 0", "count 6 = 1", "text 0 0 = 0", "count 7 = 2", "keep 2 = 99", "count 8 = 1", "tear 5 = 1",
            "count 6 = 0", "undo 0 = 1", "count 4 = 0", "count 3 = 1");
    }

    private static void findings() {
        Calls x = Calls.in("findings", "b20");
        x.run("finding = 0", "findings 1 = 0", "findings 2 = 0", "findings 3 = 0", "findings 4 = 0", "findings 5 = 0",
            "findings 0 = BAD", "findings 6 = BAD", "findings -1 = BAD", "findings MIN = BAD", "findings MAX = BAD",
            "finding = 0");
        x.run("tear 0 = NOTHING", "finding = 1", "findings 1 = 1", "where 0 = BEYOND", "finding = 2", "findings 2 = 1",
            "mark 0 1 = UNLIKE", "finding = 3", "findings 3 = 1", "row 0 0 = 0", "finding = 3", "mean 0 = NOUGHT",
            "finding = 4", "findings 4 = 1", "row 0 -1 = SIZE", "finding = 5", "findings 5 = 1", "findings 6 = BAD",
            "findings 0 = BAD", "finding = 5", "on 0 = NOTHING", "fault 0 = NOTHING", "finding = 1", "findings 1 = 3",
            "findings 5 = 1", "findings 4 = 1");
    }

    /** What else is refused, NONE, or taken leaves FINDINGS, as does a TOWN, kept or new. */
    private static void findingsStay() {
        Calls x = Calls.in("findings stay", "b20 b00 w01");
        x.run("where 0 = BEYOND", "tear 6 = BAD", "send 0 1 9 0 = 0", "sell 0 1 = STATE", "cheapest 0 0 = NONE",
            "days 20 4 times = 80", "days 20 = FULL", "write 0 x = 1", "town 0 = STATE", "fault 0 = 0", "keep 0 = 80",
            "on 0 = 80", "finding = 2", "findings 2 = 1", "town 3 = 2", "finding = 2", "findings 2 = 1",
            "findings 1 = 0");
    }

    private static void digestOfFull() {
        DearLetters x = new DearLetters();
        Mix full = new Mix();
        String town = "b99 m99 f99 r99 u99 s99 b99 w01 w12 w23 w34 w45 w56 w60 w02 w13 w24 w35 w46 ";
        Due.write(x, 3, town + "    ");
        x.town(3);
        x.keep(0);
        x.days(20);
        x.keep(2);
        x.snow(11, 1);
        x.snow(0, 1);
        for (int k = 0; k < 4; k++) {
            x.send(0, 6, 99, 9);
        }
        x.sell(3, 6);
        x.days(11);
        for (int r = 0; r < 6; r++) {
            x.row(r, 40);
            for (int i = 0; i < 40; i++) {
                x.lay(r, i, i % 2 == 0 ? Integer.MIN_VALUE + r : Integer.MAX_VALUE - i);
            }
        }
        x.text(0, 80);
        x.text(1, 0);
        x.put(0, 79, 128);
        full.add(7, 12, 31, 4, 1, 2, 6, 3, 2);
        full.add(0, 100, 2, 3, 1, 99, 2, 0, 2, 99, 4, 0, 3, 99, 4, 0, 4, 99, 3, 0, 5, 99, 3, 0, 0, 98, 2, 0);
        full.add(0, 1, 1, 1, 2, 0, 2, 3, 0, 3, 4, 0, 4, 5, 0, 5, 6, 0, 6, 0, 0, 0, 2, 0, 1, 3, 0, 2, 4, 0, 3, 5, 0);
        full.add(4, 6, 1);
        for (int k = 0; k < 3; k++) {
            full.add(0, 6, 0, 0, 0, 0, 0);
        }
        full.add(0, 6, 0, 1, 1, 6, 1);
        full.add(0, -1, 20);
        for (int r = 0; r < 6; r++) {
            full.add(40);
            for (int i = 0; i < 40; i++) {
                full.add(i % 2 == 0 ? Integer.MIN_VALUE + r : Integer.MAX_VALUE - i);
            }
        }
        full.add(80);
        for (int i = 0; i < 79; i++) {
            full.add(32);
        }
        full.add(-128, 0, -1, town.length() + 4);
        for (char sign : (town + "    ").toCharArray()) {
            full.add(sign);
        }
        Due.is("digest of all that there can be", x.digest(), full.h);
        Due.is("digest again", x.digest(), full.h);
    }

    private static final class Mix {
        private long h = 17;

        private void add(long... values) {
            for (long value : values) {
                h = 31 * h + value;
            }
        }
    }
}
