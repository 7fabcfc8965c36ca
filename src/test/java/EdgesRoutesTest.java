/** The boundary cases of promises 27 to 34: ROUTES of a LETTER. */
public final class EdgesRoutesTest {
    private static final String LINE = "b01 b01 b02 b03 b04 b05 b06 w01 w12 w23 w34 w45 w56";
    /** From 0 to 4 dearly and soon by the miser, cheaply and late by the friends. */
    private static final String TWO_WAYS = "b50 m50 f50 f50 b50 w01 w14 w02 w23 w34";
    private static final String SQUARE = "b10 b10 b10 b10 w01 w13 w02 w23 w12";

    public static void main(String[] args) {
        refusedByLetter();
        refusedByRow();
        longestRoute();
        pursesAsTheyAre();
        routesAnew();
        alikeCheapest();
        alikeSoonest();
        lastDay();
        soldToday();
        worthOfNothing();
        countsOfRoutes();
        bars();
        why();
        readersBetween();
        needs();
        needsAtMost();
        lend();
        lendNinetyNine();
        lendToWhom();
        block();
        blockOnSnow();
        unlikeBearers();
        lateDays();
        Due.end("EdgesRoutesTest");
    }

    private static void refusedByLetter() {
        String[] calls = {"cheapest K 0", "soonest K 0", "comes K", "bars K", "why K", "needs K", "lend K", "block K"};
        Calls x = Calls.in("refused", "b20 b30 w01");
        for (String call : calls) {
            x.run(call.replace("K", "0") + " = BEYOND", call.replace("K", "-1") + " = BAD");
        }
        x.run("send 0 1 9 0 = 0", "sell 0 1 = 1001", "send 1 0 9 0 = 1", "send 1 0 9 0 = 2", "send 1 0 9 0 = 3");
        for (String call : calls) {
            x.run(call.replace("K", "-1") + " = BAD", call.replace("K", "MIN") + " = BAD",
                call.replace("K", "4") + " = BEYOND", call.replace("K", "MAX") + " = BEYOND",
                call.replace("K", "0") + " = STATE");
        }
        x.run("undo 0 = 1", "why 0 = 0", "why 3 = 0", "comes 0 = 1 asked 1");
    }

    private static void refusedByRow() {
        Calls x = Calls.in("refused by ROW", "b20 b30 w01");
        x.run("send 0 1 9 0 = 0", "send 1 0 9 0 = 1", "sell 1 0 = 1001");
        for (String name : new String[] {"cheapest", "soonest"}) {
            x.run(name + " 0 -1 = BAD", name + " 0 6 = BAD", name + " 0 MIN = BAD", name + " 0 MAX = BAD",
                name + " 9 6 = BAD", name + " 9 -1 = BAD", name + " 1 6 = BAD", name + " -1 0 = BAD",
                name + " 9 0 = BEYOND", name + " 1 0 = STATE", name + " 1 5 = STATE");
        }
        x.run("count 6 = 0", "cheapest 0 0 = 1", "soonest 0 5 = 1 asked 1", "count 6 = 2");
    }

    private static void longestRoute() {
        Calls x = Calls.in("six sales", LINE);
        x.run("send 0 6 6 0 = 0", "cheapest 0 5 = 6", "soonest 0 4 = 6 asked 6", "comes 0 = 1 asked 1", "bars 0 = 62",
            "why 0 = 0", "needs 0 = 6", "lend 0 = 1 asked 6", "block 0 = 1 asked 1");
        for (int i = 0; i <= 6; i++) {
            x.run("at 5 " + i + " = 1 asked " + i, "at 4 " + i + " = 1 asked " + i);
        }
        x.run("at 5 7 = BEYOND", "at 4 7 = BEYOND");
        x.run("send 6 0 6 0 = 1", "cheapest 1 0 = NONE", "purse 0 6 = 1", "purse 1 5 = 1", "purse 2 4 = 2",
            "cheapest 1 0 = 6", "at 0 0 = 1 asked 6", "at 0 6 = 1 asked 0", "soonest 1 1 = 6 asked 6");
    }

    private static void pursesAsTheyAre() {
        for (int i = 1; i <= 6; i++) {
            Calls x = Calls.in("the PURSE of " + i, LINE);
            x.run("send 0 6 6 0 = 0", "purse 0 0 = 1", "cheapest 0 0 = 6", "purse " + i + " " + (i - 1) + " = " + i,
                "cheapest 0 0 = NONE", "soonest 0 0 = NONE", "comes 0 = 0 asked 0", "bars 0 = 0", "why 0 = 2",
                "needs 0 = NONE", "lend 0 = " + i + " asked 6", "block 0 = 0 asked 0");
        }
    }

    private static void routesAnew() {
        Calls x = Calls.in("a ROW anew", "b20 b30 w01");
        x.run("send 0 1 9 0 = 0", "row 0 40 = 40", "lay 0 0 7 = 1", "lay 0 2 7 = 1", "lay 0 39 7 = 1", "row 1 0 = 0");
        x.run("cheapest 0 0 = 1", "at 0 0 = 1 asked 0", "at 0 1 = 1 asked 1", "at 0 2 = BEYOND", "cheapest 0 1 = 1",
            "at 1 1 = 1 asked 1", "cheapest 0 2 = 1", "at 2 1 = 1 asked 1");
        x.run("row 0 40 = 40", "lay 0 39 7 = 1", "soonest 0 0 = 1 asked 1", "at 0 1 = 1 asked 1", "at 0 2 = BEYOND",
            "soonest 0 3 = 1 asked 1", "at 3 1 = 1 asked 1", "row 3 40 = 40", "at 3 2 = 1 asked 0");
        // Without any the ROW stays, there or missing.
        x.run("snow 0 1 = 0", "lay 3 0 5 = 1", "cheapest 0 3 = NONE", "soonest 0 3 = NONE", "at 3 0 = 1 asked 5",
            "at 3 39 = 1 asked 0", "cheapest 0 5 = NONE", "soonest 0 5 = NONE", "at 5 0 = NOTHING");
    }

    private static void alikeCheapest() {
        Calls x = Calls.in("alike", "f50 f50 f50 f50 f50 f50 b50 w04 w46 w02 w26 w01 w13 w36 w16 w23");
        x.run("send 0 6 0 9 = 0", "cheapest 0 0 = 0", "at 0 1 = 1 asked 1", "at 0 2 = 1 asked 6", "at 0 3 = BEYOND",
            "snow 7 1 = 0", "cheapest 0 0 = 0", "at 0 1 = 1 asked 2", "at 0 2 = 1 asked 6", "snow 3 1 = 0",
            "cheapest 0 0 = 0", "at 0 1 = 1 asked 4", "snow 0 1 = 0", "cheapest 0 0 = 0", "at 0 1 = 1 asked 1",
            "at 0 2 = 1 asked 3", "at 0 3 = 1 asked 6", "snow 4 1 = 0", "cheapest 0 0 = 0", "at 0 1 = 1 asked 2",
            "at 0 2 = 1 asked 3", "snow 2 1 = 0", "cheapest 0 0 = NONE");
        Calls y = Calls.in("the least price, by more sales", TWO_WAYS);
        y.run("send 0 4 0 9 = 0", "cheapest 0 0 = 1", "at 0 1 = 1 asked 2", "at 0 2 = 1 asked 3", "at 0 3 = 1 asked 4",
            "purse 3 0 = 50", "cheapest 0 0 = 4", "at 0 1 = 1 asked 1", "purse 4 3 = 50", "cheapest 0 0 = NONE");
        Calls z = Calls.in("the first by its third", "f50 b50 b50 b50 b50 w01 w13 w12 w34 w24");
        z.run("send 0 4 9 0 = 0", "cheapest 0 0 = 2", "at 0 2 = 1 asked 2", "soonest 0 1 = 3 asked 2",
            "at 1 2 = 1 asked 2");
    }

    private static void alikeSoonest() {
        Calls x = Calls.in("soonest", TWO_WAYS);
        x.run("send 0 4 4 0 = 0", "soonest 0 0 = 2 asked 4", "at 0 1 = 1 asked 1", "send 0 4 3 0 = 1",
            "soonest 1 0 = 3 asked 1", "at 0 1 = 1 asked 2", "at 0 3 = 1 asked 4", "at 0 4 = BEYOND",
            "send 0 4 0 0 = 2", "soonest 2 0 = NONE", "asked = 4");
        Calls y = Calls.in("soonest of alike prices", "b50 m50 u50 b50 b50 b50 w01 w15 w02 w25 w03 w35 w04 w45");
        y.run("send 0 5 99 0 = 0", "soonest 0 0 = 2 asked 2", "at 0 1 = 1 asked 3", "snow 5 1 = 0",
            "soonest 0 0 = 2 asked 2", "at 0 1 = 1 asked 4", "snow 7 1 = 0", "soonest 0 0 = 2 asked 4",
            "at 0 1 = 1 asked 1", "snow 1 1 = 0", "soonest 0 0 = 2 asked 8", "at 0 1 = 1 asked 2", "purse 5 7 = 50",
            "soonest 0 0 = NONE");
    }

    private static void lastDay() {
        Calls x = Calls.in("worth as much on its last DAY", TWO_WAYS);
        // By the friends it comes on the third DAY for 1, by the miser on the second one for 4.
        x.run("send 0 4 3 1 = 0", "comes 0 = 1 asked 2", "soonest 0 0 = 3 asked 1", "bars 0 = 12", "why 0 = 0",
            "needs 0 = 3", "block 0 = 1 asked 4");
        x.run("send 0 4 2 1 = 1", "comes 1 = 0 asked 2", "soonest 1 0 = NONE", "bars 1 = 0", "why 1 = 3",
            "needs 1 = 3", "block 1 = 0 asked 0", "cheapest 1 0 = 1");
        x.run("send 0 4 5 1 = 2", "comes 2 = 2 asked 2", "soonest 2 0 = 2 asked 4", "bars 2 = 0", "block 2 = 2 asked 5",
            "send 0 4 4 1 = 3", "comes 3 = 1 asked 2");
        x.run("days 1 = 1", "comes 0 = 0 asked 2", "why 0 = 3", "needs 0 = 3", "comes 2 = 1 asked 2",
            "comes 3 = 1 asked 2", "days 1 = 2", "comes 2 = 1 asked 2", "comes 3 = 0 asked 2", "needs 3 = 3");
        Calls y = Calls.in("one sale, today", "m50 b50 w01");
        y.run("send 0 1 3 9 = 0", "comes 0 = 1 asked 1", "needs 0 = 3", "send 0 1 2 0 = 1", "comes 1 = 0 asked 1",
            "days 1 = 1", "comes 0 = 0 asked 1", "needs 0 = 3");
    }

    private static void soldToday() {
        Calls x = Calls.in("sold today, so from the next DAY on", "f50 b50 b50 w01 w12");
        x.run("send 0 2 3 2 = 0", "comes 0 = 1 asked 1", "needs 0 = 3", "sell 0 1 = 0", "comes 0 = 1 asked 1",
            "needs 0 = 3", "soonest 0 0 = 1 asked 1", "block 0 = 1 asked 2", "days 1 = 1", "needs 0 = 1",
            "comes 0 = 1 asked 1");
        x.run("send 0 2 2 2 = 1", "comes 1 = 0 asked 1", "needs 1 = 3", "sell 1 1 = 0", "comes 1 = 0 asked 1",
            "why 1 = 3", "needs 1 = 3", "undo 1 = 1", "needs 1 = 3", "snow 1 1 = 0", "why 1 = 1", "snow 1 0 = 1");
        // From who has it, back by who sent it.
        Calls y = Calls.in("back by who sent it", "b50 m50 b50 w01 w02");
        y.run("send 0 2 50 0 = 0", "sell 0 1 = 1", "cheapest 0 0 = 5", "at 0 0 = 1 asked 1", "at 0 1 = 1 asked 0",
            "at 0 2 = 1 asked 2", "bars 0 = 1", "soonest 0 0 = 2 asked 5", "purse 0 3 = 51", "why 0 = 2",
            "purse 0 4 = 3", "why 0 = 0", "comes 0 = 1 asked 1");
    }

    private static void worthOfNothing() {
        Calls x = Calls.in("for nothing", "s00 f00 b00 w01 w12");
        x.run("send 0 2 0 9 = 0", "comes 0 = 1 asked 1", "needs 0 = 0", "why 0 = 0", "cheapest 0 0 = 0",
            "soonest 0 0 = 2 asked 0", "days 20 = 20", "comes 0 = 1 asked 1", "needs 0 = 0", "sell 0 1 = 0",
            "needs 0 = 0", "comes 0 = 1 asked 1", "block 0 = 1 asked 2");
    }

    private static void countsOfRoutes() {
        Calls x = Calls.in("all ROUTES", SQUARE);
        x.run("send 0 3 3 0 = 0", "comes 0 = 4 asked 4", "send 0 3 2 0 = 1", "comes 1 = 2 asked 4", "send 0 3 1 0 = 2",
            "comes 2 = 0 asked 4", "purse 3 2 = 10", "comes 0 = 2 asked 2", "purse 3 1 = 2", "comes 0 = 0 asked 0");
        Calls.in("two PATHS between two are one ROUTE", "b10 b10 b10 w01 w10 w12 w12 w12").run("send 0 2 9 0 = 0",
            "comes 0 = 1 asked 1", "snow 0 1 = 0", "comes 0 = 1 asked 1", "snow 1 1 = 0", "comes 0 = 0 asked 0");
        Calls.in("no PATHS", "b10 b10").run("send 0 1 9 0 = 0", "comes 0 = 0 asked 0", "cheapest 0 0 = NONE",
            "soonest 0 0 = NONE", "bars 0 = 0", "why 0 = 1", "needs 0 = NONE", "lend 0 = NONE", "block 0 = 0 asked 0");
        Calls.in("by each of five", "b10 b10 b10 b10 b10 b10 b10 w01 w02 w03 w04 w05 w16 w26 w36 w46 w56")
            .run("send 0 6 9 0 = 0", "comes 0 = 5 asked 5", "bars 0 = 0", "block 0 = 5 asked 31");
    }

    private static void bars() {
        Calls x = Calls.in("bars", SQUARE);
        x.run("send 0 3 9 0 = 0", "bars 0 = 0", "snow 1 1 = 0", "bars 0 = 4", "snow 2 1 = 0", "bars 0 = 6",
            "snow 4 1 = 0", "bars 0 = 0", "send 0 1 9 0 = 1", "bars 1 = 0");
        Calls y = Calls.in("bars, of those alone by which it comes", "b10 b10 b10 b10 w01 w13 w23 w12");
        y.run("send 0 3 2 0 = 0", "bars 0 = 2", "comes 0 = 1 asked 2", "send 0 3 3 0 = 1", "bars 1 = 2",
            "send 0 3 1 0 = 2", "bars 2 = 0");
    }

    private static void why() {
        Calls x = Calls.in("why", SQUARE);
        x.run("send 0 3 2 0 = 0", "why 0 = 0", "send 0 3 1 0 = 1", "why 1 = 3", "purse 3 1 = 10", "why 1 = 2",
            "why 0 = 2", "snow 1 1 = 0", "why 0 = 2", "snow 3 1 = 0", "why 0 = 1", "why 1 = 1", "purse 3 999 = 1",
            "why 0 = 1", "snow 3 0 = 1", "why 0 = 0", "purse 2 0 = 10", "why 0 = 2", "purse 2 1 = 0", "why 0 = 0");
    }

    private static void readersBetween() {
        Calls x = Calls.in("READERS", "r10 r10 b10 r10 w01 w12 w02 w23");
        x.run("send 0 3 9 0 = 0", "comes 0 = 1 asked 1", "bars 0 = 4", "cheapest 0 0 = 2", "snow 2 1 = 0", "why 0 = 1",
            "comes 0 = 0 asked 0", "lend 0 = NONE", "needs 0 = NONE", "send 0 1 9 0 = 1", "why 1 = 0",
            "send 1 3 9 0 = 2", "why 2 = 0", "cheapest 2 0 = 2");
        Calls.in("a READER between", "b10 r10 b10 w01 w12").run("send 0 2 9 0 = 0", "why 0 = 1", "comes 0 = 0 asked 0",
            "block 0 = 0 asked 0", "send 0 1 9 0 = 1", "why 1 = 0", "block 1 = 1 asked 1");
    }

    private static void needs() {
        Calls x = Calls.in("needs", TWO_WAYS);
        x.run("send 0 4 0 0 = 0", "needs 0 = 1", "send 0 4 0 1 = 1", "needs 1 = 3", "send 0 4 0 3 = 2", "needs 2 = 7",
            "send 0 4 0 9 = 3", "needs 3 = 13", "purse 4 3 = 50", "needs 3 = 19", "purse 4 1 = 3", "needs 3 = 19",
            "purse 4 0 = 1", "needs 3 = NONE", "needs 0 = NONE");
    }

    /** Asked for 994 on the next DAY, with what its FALL takes till then: 999 can be its WORTH, 1000 can't. */
    private static void needsAtMost() {
        for (int fall = 4; fall <= 6; fall++) {
            Calls x = Calls.in("needs, a FALL of " + fall, "u99 b99 m99 u99 b99 w01 w02 w03 w04");
            x.run("send 0 4 99 " + fall + " = 0");
            int[] buyers = {1, 0, 2, 0, 2, 0, 2, 0, 3, 0};
            int[] prices = {6, 7, 20, 23, 52, 55, 116, 119, 244, 494};
            for (int i = 0; i < buyers.length; i++) {
                for (int k = 0; k < 5; k++) {
                    x.rich(k);
                }
                x.run("days 1 = " + (i + 1), "sell 0 " + buyers[i] + " = " + prices[i]);
            }
            x.rich(4);
            x.run("comes 0 = 0 asked 1", "why 0 = 3", "needs 0 = " + (fall > 5 ? "NONE" : 994 + fall), "days 1 = 11",
                "needs 0 = 994");
        }
    }

    private static void lend() {
        Calls x = Calls.in("lend", "b10 b00 b00 b00 w01 w12 w23");
        x.run("send 0 3 0 9 = 0", "lend 0 = NONE", "purse 1 1 = 0", "lend 0 = NONE", "purse 2 2 = 0",
            "lend 0 = 3 asked 3", "purse 3 3 = 0", "lend 0 = 1 asked 3", "purse 2 1 = 2", "lend 0 = 2 asked 3",
            "purse 2 0 = 1", "lend 0 = 2 asked 3", "snow 2 1 = 0", "lend 0 = NONE", "asked = 3");
        Calls y = Calls.in("lend to the first that makes it least", "b10 b10 s00 s00 b10 w01 w14 w02 w24 w03 w34");
        y.run("send 0 4 0 0 = 0", "lend 0 = 2 asked 0", "purse 2 1 = 0", "lend 0 = 1 asked 0", "purse 2 0 = 1",
            "snow 3 1 = 0", "lend 0 = 3 asked 0", "snow 5 1 = 0", "lend 0 = 1 asked 2");
    }

    private static void lendNinetyNine() {
        Calls x = Calls.in("99 are enough for 99", "u00 b99 u99 u99 u99 b99 b00 w01 w12 w23 w34 w45 w56");
        x.run("send 0 6 0 0 = 0", "cheapest 0 0 = NONE", "lend 0 = 6 asked 99", "purse 6 98 = 0", "lend 0 = 6 asked 99",
            "purse 6 99 = 98", "cheapest 0 0 = 99", "lend 0 = 1 asked 99");
        Calls y = Calls.in("99 are not enough for 100", "u00 b99 u99 u99 b99 u99 b00 w01 w12 w23 w34 w45 w56");
        y.run("send 0 6 0 0 = 0", "lend 0 = NONE", "purse 6 99 = 0", "lend 0 = NONE", "purse 6 100 = 99",
            "lend 0 = 1 asked 100", "purse 1 0 = 99", "lend 0 = 1 asked 100", "purse 2 0 = 99", "lend 0 = NONE");
        // Who has more than 99 would have 99 as well.
        Calls z = Calls.in("having 99, not more", "u00 b99 u99 u99 b99 u99 b00 w01 w12 w23 w34 w45 w56");
        z.run("send 0 6 0 0 = 0", "purse 6 999 = 0", "purse 5 0 = 99", "lend 0 = 5 asked 100", "purse 5 99 = 0",
            "lend 0 = 1 asked 100");
    }

    private static void lendToWhom() {
        Calls x = Calls.in("not to who has it", "b00 b10 b10 w01 w12");
        x.run("send 0 2 0 0 = 0", "lend 0 = 1 asked 2", "sell 0 1 = 1", "lend 0 = 0 asked 2", "purse 2 0 = 10",
            "lend 0 = 2 asked 2");
        Calls y = Calls.in("not to a READER between", "r10 b10 r10 b10 w10 w12 w13");
        y.run("send 1 3 0 0 = 0", "lend 0 = 3 asked 1", "send 1 2 0 0 = 1", "lend 1 = 2 asked 1");
    }

    private static void block() {
        Calls x = Calls.in("block", "b10 b10" + " w01".repeat(12));
        x.run("send 0 1 1 0 = 0", "block 0 = 12 asked 4095", "send 0 1 0 0 = 1", "block 1 = 0 asked 0",
            "block 0 = 12 asked 4095", "snow 11 1 = 0", "block 0 = 11 asked 2047", "snow 0 1 = 0",
            "block 0 = 10 asked 2046", "count 5 = 2");
        for (int i = 1; i <= 10; i++) {
            x.run("snow " + i + " 1 = 0", "block 0 = " + (10 - i) + " asked " + (2046 >> i + 1 << i + 1));
        }
        Calls y = Calls.in("block, the least", "b10 b10 b10 w12 w12 w01");
        y.run("send 0 2 9 0 = 0", "block 0 = 1 asked 4", "snow 0 1 = 0", "block 0 = 1 asked 2", "snow 1 1 = 0",
            "block 0 = 0 asked 0");
        Calls z = Calls.in("block, the dear way need not be", TWO_WAYS);
        z.run("send 0 4 3 0 = 0", "block 0 = 1 asked 4", "send 0 4 4 0 = 1", "block 1 = 2 asked 5");
    }

    private static void blockOnSnow() {
        Calls x = Calls.in("block beside SNOW", SQUARE);
        x.run("send 0 3 9 0 = 0", "block 0 = 2 asked 5", "snow 0 1 = 0", "block 0 = 1 asked 4", "snow 2 1 = 0",
            "block 0 = 0 asked 0", "snow 0 0 = 1", "block 0 = 1 asked 1", "snow 2 0 = 1", "purse 1 0 = 10",
            "block 0 = 1 asked 4", "purse 2 0 = 10", "block 0 = 0 asked 0");
    }

    /** By a SAINT and back it would come cheaply, but only by one who had it already. */
    private static void unlikeBearers() {
        Calls x = Calls.in("back to who has it", "b50 u50 s50 b05 w01 w02 w03");
        x.run("send 1 3 50 0 = 0", "sell 0 0 = 6", "comes 0 = 0 asked 0", "cheapest 0 0 = NONE", "why 0 = 2",
            "block 0 = 0 asked 0", "needs 0 = NONE", "purse 3 7 = 5", "comes 0 = 1 asked 1", "block 0 = 1 asked 4");
        Calls y = Calls.in("back to one between", "u50 b50 s50 b05 w01 w12 w13");
        y.run("send 0 3 50 0 = 0", "comes 0 = 0 asked 0", "cheapest 0 0 = NONE", "why 0 = 2", "block 0 = 0 asked 0",
            "needs 0 = NONE", "purse 3 7 = 5", "comes 0 = 1 asked 1", "block 0 = 1 asked 1");
        Calls z = Calls.in("by BEARER 0", "b50 b50 b50 w01 w02");
        z.run("send 1 2 50 0 = 0", "comes 0 = 1 asked 1", "block 0 = 1 asked 1", "bars 0 = 1", "send 1 0 50 0 = 1",
            "block 1 = 1 asked 1", "soonest 1 0 = 1 asked 1");
    }

    /** DAYS of a ROUTE are counted on behind DAY 99, as no answer of why() is about them. */
    private static void lateDays() {
        Calls x = Calls.in("on DAY 99", "b10 b10 b10 w01 w12");
        x.run("days 20 4 times = 80", "days 19 = 99", "send 0 2 3 1 = 0", "comes 0 = 1 asked 1", "why 0 = 0",
            "needs 0 = 3", "soonest 0 0 = 2 asked 2", "send 0 2 2 1 = 1", "comes 1 = 0 asked 1", "why 1 = 3");
    }
}
