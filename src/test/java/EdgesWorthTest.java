/** The boundary cases of promises 35 to 39: worth, bundles, a post, false news, gain. */
public final class EdgesWorthTest {
    private static final String LINE = "b00 b00 b00 b00 b00 b00 b00 w01 w12 w23 w34 w45 w56";

    public static void main(String[] args) {
        worthRefused();
        worthByDays();
        worthByWay();
        worthByNought();
        worthBelowNone();
        worthOfReaders();
        bundle();
        bundleByItself();
        post();
        postOfAll();
        fake();
        gain();
        Due.end("EdgesWorthTest");
    }

    private static void worthRefused() {
        Calls x = Calls.in("worth", "b20 b30 b10 w01");
        x.run("worth 0 0 0 = BEYOND", "worth 0 3 0 = BAD", "worth -1 0 0 = BAD", "send 0 1 9 0 = 0",
            "send 1 0 9 0 = 1", "sell 1 0 = 1001");
        x.run("worth -1 0 0 = BAD", "worth MIN 0 0 = BAD", "worth 0 -1 0 = BAD", "worth 0 3 0 = BAD",
            "worth 0 MIN 0 = BAD", "worth 0 MAX 0 = BAD", "worth 0 0 -1 = BAD", "worth 0 0 21 = BAD",
            "worth 0 0 MIN = BAD", "worth 0 0 MAX = BAD");
        x.run("worth 2 0 0 = BEYOND", "worth MAX 2 20 = BEYOND", "worth 2 3 0 = BAD", "worth 2 0 21 = BAD",
            "worth 1 0 0 = STATE", "worth 1 2 20 = STATE", "worth 1 3 0 = BAD", "worth 1 0 -1 = BAD",
            "worth 1 0 21 = BAD");
        x.run("worth 0 0 0 = 8", "worth 0 2 20 = 0", "undo 0 = 1", "worth 1 0 0 = 9");
    }

    private static void worthByDays() {
        Calls x = Calls.in("worth by DAYS", LINE);
        x.run("send 0 6 99 1 = 0", "worth 0 6 0 = 99", "worth 0 6 1 = 98", "worth 0 6 19 = 80", "worth 0 6 20 = 79",
            "worth 0 5 0 = 97", "worth 0 5 19 = 78", "worth 0 5 20 = 0", "worth 0 4 18 = 77", "worth 0 4 19 = 0",
            "worth 0 4 20 = 0", "worth 0 0 0 = 87", "worth 0 0 14 = 73", "worth 0 0 15 = 0", "worth 0 0 20 = 0");
        x.run("days 20 4 times = 80", "worth 0 6 0 = 19", "worth 0 6 19 = 0", "worth 0 6 20 = 0", "worth 0 0 0 = 7",
            "worth 0 0 3 = 4", "worth 0 0 6 = 1", "worth 0 0 7 = 0", "worth 0 0 8 = 0", "days 19 = 99",
            "worth 0 6 0 = 0", "send 0 6 99 9 = 1", "worth 1 6 10 = 9", "worth 1 6 11 = 0", "worth 1 6 12 = 0",
            "worth 1 5 0 = 89", "worth 1 5 9 = 8", "worth 1 5 10 = 0");
    }

    private static void worthByWay() {
        Calls x = Calls.in("worth by way", "b00 b00 b00 b00 w01 w13 w02 w23 w12");
        x.run("send 0 3 50 0 = 0", "worth 0 0 0 = 48", "worth 0 1 0 = 49", "snow 1 1 = 0", "worth 0 1 0 = 48",
            "worth 0 0 0 = 48", "snow 2 1 = 0", "worth 0 0 0 = 47", "snow 0 1 = 0", "worth 0 0 0 = 0",
            "worth 0 3 0 = 50", "snow 3 1 = 0", "worth 0 2 0 = 0", "worth 0 3 20 = 50");
    }

    private static void worthByNought() {
        Calls x = Calls.in("worth by BEARER 0", "b00 b00 b00 b00 w01 w02 w23");
        x.run("send 1 0 50 0 = 0", "worth 0 1 0 = 49", "worth 0 3 0 = 48", "send 1 3 50 0 = 1", "worth 1 1 0 = 47",
            "worth 1 0 0 = 48");
    }

    private static void worthBelowNone() {
        Calls x = Calls.in("worth, 0 at least", "b00 b00 b00 w01 w12");
        x.run("send 0 2 0 0 = 0", "worth 0 2 0 = 0", "worth 0 1 0 = 0", "worth 0 0 0 = 0", "send 0 2 1 0 = 1",
            "worth 1 2 0 = 1", "worth 1 1 0 = 0", "worth 1 0 0 = 0", "send 0 2 2 0 = 2", "worth 2 1 0 = 1",
            "worth 2 0 0 = 0", "send 0 2 3 1 = 3", "worth 3 1 0 = 1", "worth 3 1 1 = 0", "worth 3 0 0 = 0");
    }

    private static void worthOfReaders() {
        Calls x = Calls.in("worth of READERS", "b00 r00 r00 b00 w01 w12 w03 w31");
        x.run("send 0 2 50 0 = 0", "worth 0 2 0 = 50", "worth 0 1 0 = 49", "worth 0 0 0 = 0", "worth 0 3 0 = 0",
            "send 0 1 50 0 = 1", "worth 1 0 0 = 49", "worth 1 3 0 = 49", "worth 1 2 0 = 49", "worth 1 1 0 = 50");
    }

    private static void bundle() {
        Calls x = Calls.in("bundle", "u50 b50 m50 f09 w03 w13 w23");
        x.run("bundle -1 = BAD", "bundle 4 = BAD", "bundle MIN = BAD", "bundle MAX = BAD", "bundle 3 = 0 asked 0",
            "send 0 1 9 0 = 0", "send 2 1 9 0 = 1", "send 1 2 9 0 = 2", "send 2 0 9 0 = 3");
        // Their prices are 6, 3, 1, 3.
        int[][] wants = {{0, 0, 0}, {1, 1, 4}, {2, 1, 4}, {3, 1, 2}, {4, 2, 6}, {5, 2, 6}, {6, 2, 6}, {7, 3, 14},
            {9, 3, 14}, {10, 3, 7}, {12, 3, 7}, {13, 4, 15}, {999, 4, 15}};
        int was = 9;
        for (int[] want : wants) {
            x.run("purse 3 " + want[0] + " = " + was, "bundle 3 = " + want[1] + " asked " + want[2]);
            was = want[0];
        }
        x.run("snow 0 1 = 0", "bundle 3 = 3 asked 14", "snow 2 1 = 0", "bundle 3 = 1 asked 4", "snow 1 1 = 0",
            "bundle 3 = 0 asked 0");
    }

    private static void bundleByItself() {
        Calls x = Calls.in("each by itself", "b50 b09 r09 w01 w02");
        x.run("send 0 1 0 0 = 0", "bundle 1 = 0 asked 0", "send 0 1 1 0 = 1", "bundle 1 = 1 asked 2",
            "send 0 2 9 0 = 2", "bundle 1 = 2 asked 6", "bundle 2 = 1 asked 4", "bundle 0 = 0 asked 0",
            "sell 1 1 = 1001", "bundle 1 = 1 asked 4", "sell 2 1 = 1", "bundle 1 = 0 asked 0", "bundle 2 = 0 asked 0",
            "bundle 0 = 0 asked 0", "days 1 = 1", "bundle 0 = 1 asked 4");
        Calls z = Calls.in("the first alone, the last alone", "b50 m50 b50 b01 w03 w13 w23");
        z.run("send 0 2 9 0 = 0", "send 1 2 9 0 = 1", "bundle 3 = 1 asked 1", "send 1 2 9 0 = 2", "send 2 0 9 0 = 3",
            "bundle 3 = 1 asked 1", "snow 0 1 = 0", "bundle 3 = 1 asked 8");
        Calls y = Calls.in("for nothing, with nothing", "s00 b00 w01");
        y.run("send 0 1 0 9 = 0", "send 0 1 0 9 = 1", "send 0 1 0 9 = 2", "send 0 1 0 9 = 3",
            "bundle 1 = 4 asked 15");
    }

    private static void post() {
        Calls x = Calls.in("post", "b20 u15 b30 w01 w12");
        // 0-1: 1, 0-2: 8, 1-0: 6, 1-2: 6, 2-0: 8, 2-1: 1.
        x.run("post 0 = 6 asked 0", "post 1 = 4 asked 0", "post 5 = 4 asked 0", "post 6 = 2 asked 0",
            "post 7 = 2 asked 0", "post 8 = 0 asked 0", "post 99 = 0 asked 0", "post -1 = BAD", "post 100 = BAD",
            "post MIN = BAD", "post MAX = BAD", "asked = 0");
        x.run("purse 2 7 = 30", "post 8 = 1 asked 1", "post 7 = 2 asked 1", "purse 2 8 = 7", "post 8 = 0 asked 0");
        // LETTERS that there are stand in no one's way.
        x.run("send 0 1 9 0 = 0", "send 0 1 9 0 = 1", "send 0 1 9 0 = 2", "send 0 1 9 0 = 3", "sell 0 1 = 1001",
            "post 8 = 0 asked 0", "post 0 = 6 asked 0");
        Calls.in("a post beside nothing that costs", "s00 s00 w01").run("post 0 = 0 asked 0");
        new Calls("a post for nobody").run("post 0 = 0 asked 0", "post -1 = BAD", "post 100 = BAD");
        Calls.in("a post for one", "b00").run("post 0 = 0 asked 0");
    }

    private static void postOfAll() {
        Calls.in("a post for all pairs", "b09 b09 b09 b09 b09 b09 b09").run("post 0 = 42 asked 42",
            "post 99 = 42 asked 42");
        Calls.in("a post at 99 and dearer ROUTES", "u00 u99 u99 u99 b99 b99 w01 w12 w23 w34 w45")
            .run("purse 5 999 = 99", "fake 0 4 99 = 90", "fake 0 5 99 = 91", "asks 3 42 = 90");
        // 0-6: 6, 7, 20, 46, 47, 100.
        Calls y = Calls.in("a ROUTE for 100", "u00 b99 u99 u99 b99 u99 b99 w01 w12 w23 w34 w45 w56");
        y.run("cheapest 0 0 = BEYOND", "send 0 6 0 0 = 0", "cheapest 0 0 = NONE", "purse 6 100 = 99",
            "cheapest 0 0 = 100", "fake 0 6 99 = 0", "fake 0 5 99 = 47");
    }

    private static void fake() {
        Calls x = Calls.in("fake", "b20 u15 b30 b00 w01 w12 w13");
        x.run("fake 0 2 99 = 8", "fake 0 2 8 = 8", "fake 0 2 7 = 0", "fake 0 2 0 = 0", "fake 0 1 1 = 1",
            "fake 0 1 0 = 0", "fake 0 3 99 = 0", "purse 3 8 = 0", "fake 0 3 99 = 8", "purse 3 7 = 8",
            "fake 0 3 99 = 0", "purse 1 0 = 15", "fake 0 2 99 = 0", "fake 1 2 99 = 6");
        x.run("fake -1 2 5 = BAD", "fake 4 2 5 = BAD", "fake MIN 2 5 = BAD", "fake MAX 2 5 = BAD", "fake 0 -1 5 = BAD",
            "fake 0 4 5 = BAD", "fake 0 MIN 5 = BAD", "fake 0 MAX 5 = BAD", "fake 2 2 5 = BAD", "fake 0 0 5 = BAD",
            "fake 0 2 -1 = BAD", "fake 0 2 100 = BAD", "fake 0 2 MIN = BAD", "fake 0 2 MAX = BAD");
        x.run("snow 0 1 = 0", "fake 0 1 99 = 0", "count 3 = 0");
        Calls y = Calls.in("the cheapest, though dearer ones would earn more", "b20 m50 f50 b50 w01 w13 w02 w23");
        y.run("fake 0 3 99 = 1", "purse 2 0 = 50", "fake 0 3 99 = 4", "fake 0 3 3 = 0", "fake 0 3 4 = 4");
        Calls.in("false news for nothing", "s20 b50 w01").run("fake 0 1 0 = 0", "fake 0 1 99 = 0");
        Calls.in("with four LETTERS", "b20 b50 w01").run("send 0 1 9 0 = 0", "send 0 1 9 0 = 1", "send 0 1 9 0 = 2",
            "send 0 1 9 0 = 3", "fake 0 1 9 = 1");
    }

    private static void gain() {
        Calls x = Calls.in("gain", "b20 u15 b30 w01 w12");
        x.run("gain -1 = BAD", "gain 3 = BAD", "gain MIN = BAD", "gain MAX = BAD", "gain 0 = 1 asked 0",
            "gain 2 = 1 asked 0", "send 0 2 50 0 = 0", "send 0 2 50 0 = 1", "sell 0 1 = 1", "gain 0 = 1 asked 1",
            "gain 1 = 1 asked -1", "gain 2 = 1 asked 0", "sell 1 1 = 1", "gain 0 = 1 asked 2", "gain 1 = 1 asked -2");
        x.run("days 1 = 1", "sell 0 2 = 1008", "gain 1 = 1 asked 6", "gain 2 = 1 asked -8", "purse 2 999 = 22",
            "gain 2 = 1 asked -8", "sell 1 0 = 8", "gain 0 = 1 asked -6", "gain 1 = 1 asked 14", "undo 3 = 1",
            "gain 0 = 1 asked 2", "gain 1 = 1 asked 6", "undo 0 = 3", "gain 0 = 1 asked 0", "gain 1 = 1 asked 0",
            "gain 2 = 1 asked 0");
        x.run("sell 0 1 = 1", "keep 0 = 1", "gain 1 = 1 asked -1", "on 0 = 1", "gain 1 = 1 asked 0");
    }
}
