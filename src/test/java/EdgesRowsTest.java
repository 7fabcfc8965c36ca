/** The boundary cases of promises 1 to 9: ROWS and TEXTS. */
public final class EdgesRowsTest {
    public static void main(String[] args) {
        newObject();
        row();
        lay();
        at();
        tear();
        copyNumbers();
        copyPlaces();
        mean();
        text();
        put();
        allRowsAndTexts();
        Due.end("EdgesRowsTest");
    }

    private static void newObject() {
        Calls x = new Calls("new");
        for (int what = 0; what <= 8; what++) {
            x.run("count " + what + " = 0");
        }
        for (int r = 0; r <= 5; r++) {
            x.run("at " + r + " 0 = NOTHING", "tear " + r + " = NOTHING");
        }
        for (int t = 0; t <= 3; t++) {
            x.run("put " + t + " 0 1 = NOTHING", "fault " + t + " = NOTHING", "town " + t + " = NOTHING");
        }
        x.run("asked = 0", "bearer 0 0 = BAD", "where 0 = BEYOND", "days 0 = 0", "undo 0 = 0", "on 0 = NOTHING");
    }

    private static void row() {
        Calls x = new Calls("row");
        x.run("row 0 0 = 0", "at 0 0 = BEYOND", "count 6 = 1", "row 5 40 = 40", "at 5 39 = 1 asked 0",
            "at 5 40 = BEYOND", "count 6 = 2");
        x.run("row -1 3 = BAD", "row 6 3 = BAD", "row MIN 3 = BAD", "row MAX 3 = BAD");
        x.run("row 1 41 = BAD", "row 1 MAX = BAD", "row 5 41 = BAD", "at 5 39 = 1 asked 0");
        x.run("row 1 -1 = SIZE", "row 1 MIN = SIZE", "row 5 -1 = SIZE", "at 5 39 = 1 asked 0", "count 6 = 2");
        x.run("row 6 -1 = BAD", "row -1 -1 = BAD", "row 6 41 = BAD", "row MIN MIN = BAD");
        x.run("lay 5 39 8 = 1 asked 0", "lay 5 0 9 = 1 asked 0", "row 5 40 = 40", "at 5 39 = 1 asked 0",
            "at 5 0 = 1 asked 0");
        x.run("lay 5 0 9 = 1 asked 0", "lay 5 39 8 = 1 asked 0", "row 5 0 = 0", "at 5 0 = BEYOND", "row 5 40 = 40",
            "at 5 0 = 1 asked 0", "at 5 39 = 1 asked 0");
        x.run("row 5 1 = 1", "at 5 0 = 1 asked 0", "at 5 1 = BEYOND");
    }

    private static void lay() {
        Calls x = new Calls("lay");
        x.run("row 0 40 = 40", "row 5 1 = 1", "row 2 0 = 0");
        x.run("lay 0 0 MIN = 1 asked 0", "lay 0 0 MAX = 1 asked -2147483648", "lay 0 0 0 = 1 asked 2147483647");
        x.run("lay 0 39 7 = 1 asked 0", "lay 0 39 7 = 1 asked 7", "lay 0 40 7 = BEYOND", "lay 0 MAX 7 = BEYOND",
            "lay 0 -1 7 = BEYOND", "lay 0 MIN 7 = BEYOND");
        x.run("lay 5 0 4 = 1 asked 0", "lay 5 1 4 = BEYOND", "lay 2 0 4 = BEYOND");
        x.run("lay 1 0 4 = NOTHING", "lay 1 -1 4 = NOTHING", "lay 1 40 4 = NOTHING", "lay 3 MAX 4 = NOTHING");
        x.run("lay -1 0 4 = BAD", "lay 6 0 4 = BAD", "lay MIN 0 4 = BAD", "lay MAX 0 4 = BAD", "lay 6 -1 4 = BAD");
        x.run("at 5 0 = 1 asked 4", "at 0 39 = 1 asked 7", "at 0 38 = 1 asked 0");
    }

    private static void at() {
        Calls x = new Calls("at");
        x.run("row 0 40 = 40", "lay 0 0 MIN = 1", "lay 0 39 MAX = 1", "row 1 0 = 0");
        x.run("at 0 0 = 1 asked -2147483648", "at 0 39 = 1 asked 2147483647", "at 0 38 = 1 asked 0");
        x.run("at 0 40 = BEYOND", "at 0 MAX = BEYOND", "at 0 -1 = BEYOND", "at 0 MIN = BEYOND", "at 1 0 = BEYOND");
        x.run("at 5 0 = NOTHING", "at 5 -1 = NOTHING", "at 5 40 = NOTHING");
        x.run("at -1 0 = BAD", "at 6 0 = BAD", "at MIN 0 = BAD", "at MAX 0 = BAD", "at 6 40 = BAD", "at -1 -1 = BAD");
        x.run("asked = 0", "at 0 0 = 1 asked -2147483648", "at 0 40 = BEYOND", "asked = -2147483648");
    }

    private static void tear() {
        Calls x = new Calls("tear");
        x.run("row 0 0 = 0", "row 5 40 = 40", "lay 5 0 9 = 1", "tear 0 = 1", "count 6 = 1", "tear 0 = NOTHING",
            "tear 5 = 1", "count 6 = 0", "tear 5 = NOTHING", "at 5 0 = NOTHING", "mean 5 = NOTHING");
        x.run("tear -1 = BAD", "tear 6 = BAD", "tear MIN = BAD", "tear MAX = BAD");
        x.run("row 5 1 = 1", "at 5 0 = 1 asked 0", "tear 5 = 1", "count 6 = 0");
    }

    private static void copyNumbers() {
        Calls x = new Calls("copy, its numbers");
        x.run("row 0 40 = 40", "row 5 40 = 40", "row 1 0 = 0", "lay 0 0 7 = 1", "lay 0 39 8 = 1");
        x.run("copy 0 0 5 0 40 = 1", "at 5 0 = 1 asked 7", "at 5 39 = 1 asked 8");
        x.run("copy -1 0 5 0 1 = BAD", "copy 6 0 5 0 1 = BAD", "copy MIN 0 5 0 1 = BAD", "copy MAX 0 5 0 1 = BAD");
        x.run("copy 0 0 -1 0 1 = BAD", "copy 0 0 6 0 1 = BAD", "copy 0 0 MIN 0 1 = BAD", "copy 0 0 MAX 0 1 = BAD");
        x.run("copy 6 0 5 0 -1 = BAD", "copy 0 0 6 0 -1 = BAD", "copy 2 0 6 0 1 = BAD", "copy 6 0 2 0 1 = BAD",
            "copy 0 99 6 0 1 = BAD");
        x.run("copy 0 0 5 0 -1 = SIZE", "copy 0 0 5 0 MIN = SIZE", "copy 2 0 5 0 -1 = SIZE", "copy 0 0 2 0 -1 = SIZE",
            "copy 0 99 5 99 -1 = SIZE");
        x.run("copy 2 0 5 0 1 = NOTHING", "copy 0 0 2 0 1 = NOTHING", "copy 2 0 3 0 0 = NOTHING",
            "copy 2 99 5 0 1 = NOTHING", "copy 0 0 2 99 1 = NOTHING", "copy 0 0 2 0 0 = NOTHING");
    }

    private static void copyPlaces() {
        Calls x = new Calls("copy, its places");
        x.run("row 0 40 = 40", "row 5 3 = 3", "row 1 0 = 0", "lay 0 38 5 = 1", "lay 0 39 6 = 1");
        x.run("copy 0 39 5 2 1 = 1", "at 5 2 = 1 asked 6", "copy 0 38 5 1 2 = 1", "at 5 1 = 1 asked 5");
        x.run("copy 0 39 5 0 2 = BEYOND", "copy 0 40 5 0 1 = BEYOND", "copy 0 0 5 0 4 = BEYOND",
            "copy 0 0 5 1 3 = BEYOND", "copy 0 0 5 3 1 = BEYOND", "copy 0 0 0 0 41 = BEYOND");
        x.run("copy 0 -1 5 0 1 = BEYOND", "copy 0 -1 5 0 0 = BEYOND", "copy 0 0 5 -1 1 = BEYOND",
            "copy 0 0 5 -1 0 = BEYOND", "copy 0 MIN 5 0 1 = BEYOND", "copy 0 0 5 MIN 1 = BEYOND");
        x.run("copy 0 MAX 5 0 1 = BEYOND", "copy 0 0 5 MAX 1 = BEYOND", "copy 0 1 0 1 MAX = BEYOND",
            "copy 0 MAX 0 MAX MAX = BEYOND", "copy 0 MIN 0 MIN MAX = BEYOND", "copy 0 MAX 5 0 0 = BEYOND");
        x.run("copy 0 40 5 3 0 = 1", "copy 0 41 5 0 0 = BEYOND", "copy 0 0 5 4 0 = BEYOND", "copy 1 0 1 0 0 = 1",
            "copy 1 0 1 0 1 = BEYOND", "copy 1 0 5 0 1 = BEYOND", "copy 5 0 1 0 1 = BEYOND", "copy 5 0 1 0 0 = 1");
        x.run("lay 5 0 1 = 1", "lay 5 1 2 = 1", "lay 5 2 3 = 1", "copy 5 0 5 1 2 = 1", "at 5 0 = 1 asked 1",
            "at 5 1 = 1 asked 1", "at 5 2 = 1 asked 2");
        x.run("lay 5 0 1 = 1", "lay 5 1 2 = 1", "lay 5 2 3 = 1", "copy 5 1 5 0 2 = 1", "at 5 0 = 1 asked 2",
            "at 5 1 = 1 asked 3", "at 5 2 = 1 asked 3", "copy 5 0 5 0 3 = 1", "at 5 0 = 1 asked 2");
    }

    private static void mean() {
        Calls x = new Calls("mean");
        x.run("row 0 1 = 1", "lay 0 0 MIN = 1", "mean 0 = 1 asked -2147483648", "lay 0 0 MAX = 1",
            "mean 0 = 1 asked 2147483647");
        x.run("row 5 2 = 2", "mean 5 = 1 asked 0", "lay 5 0 MIN = 1", "lay 5 1 MAX = 1", "mean 5 = 1 asked 0");
        x.run("lay 5 0 -1 = 1", "lay 5 1 0 = 1", "mean 5 = 1 asked 0", "lay 5 1 -1 = 1", "mean 5 = 1 asked -1",
            "lay 5 1 -2 = 1", "mean 5 = 1 asked -1", "lay 5 0 1 = 1", "lay 5 1 2 = 1", "mean 5 = 1 asked 1");
        x.run("row 1 40 = 40");
        for (int i = 0; i < 40; i++) {
            x.run("lay 1 " + i + " MIN = 1");
        }
        x.run("mean 1 = 1 asked -2147483648", "lay 1 39 0 = 1", "mean 1 = 1 asked -2093796556");
        x.run("row 2 0 = 0", "mean 2 = NOUGHT", "mean 3 = NOTHING", "mean -1 = BAD", "mean 6 = BAD", "mean MIN = BAD",
            "mean MAX = BAD", "asked = -2093796556");
    }

    private static void text() {
        Calls x = new Calls("text");
        x.run("text 0 0 = 0", "put 0 0 1 = BEYOND", "text 3 80 = 80", "put 3 79 1 = 1032", "put 3 80 1 = BEYOND",
            "count 7 = 2");
        x.run("text -1 3 = BAD", "text 4 3 = BAD", "text MIN 3 = BAD", "text MAX 3 = BAD", "text 1 81 = BAD",
            "text 3 81 = BAD", "text 1 MAX = BAD", "put 3 79 2 = 1001");
        x.run("text 1 -1 = SIZE", "text 1 MIN = SIZE", "text 3 -1 = SIZE", "put 3 79 3 = 1002", "count 7 = 2");
        x.run("text 4 -1 = BAD", "text -1 -1 = BAD", "text 4 81 = BAD", "text MIN MIN = BAD");
        x.run("text 3 79 = 79", "put 3 79 1 = BEYOND", "put 3 78 1 = 1032", "text 3 80 = 80", "put 3 79 1 = 1032",
            "put 3 78 1 = 1032");
    }

    private static void put() {
        Calls x = new Calls("put");
        x.run("text 0 80 = 80", "text 1 0 = 0");
        int[] values = {0, 127, 128, 129, 255, 256, 257, -1, -128, -129, -256, 65536 + 9, Integer.MIN_VALUE,
            Integer.MAX_VALUE, 32};
        int was = 32;
        for (int value : values) {
            x.run("put 0 0 " + value + " = " + (1000 + was), "put 0 79 " + value + " = " + (1000 + was));
            was = (byte) value;
        }
        x.run("put 0 1 0 = 1032", "put 0 78 0 = 1032");
        x.run("put 0 80 5 = BEYOND", "put 0 MAX 5 = BEYOND", "put 0 -1 5 = BEYOND", "put 0 MIN 5 = BEYOND",
            "put 1 0 5 = BEYOND");
        x.run("put 2 0 5 = NOTHING", "put 2 -1 5 = NOTHING", "put 3 80 5 = NOTHING");
        x.run("put -1 0 5 = BAD", "put 4 0 5 = BAD", "put MIN 0 5 = BAD", "put MAX 0 5 = BAD", "put 4 -1 5 = BAD");
    }

    private static void allRowsAndTexts() {
        Calls x = new Calls("all ROWS and TEXTS");
        for (int r = 0; r <= 5; r++) {
            x.run("row " + r + " 40 = 40", "lay " + r + " 39 " + (r + 50) + " = 1 asked 0");
        }
        for (int t = 0; t <= 3; t++) {
            x.run("text " + t + " 80 = 80", "put " + t + " 79 " + (t + 60) + " = 1032");
        }
        x.run("count 6 = 6", "count 7 = 4");
        for (int r = 0; r <= 5; r++) {
            x.run("at " + r + " 39 = 1 asked " + (r + 50));
        }
        for (int t = 0; t <= 3; t++) {
            x.run("put " + t + " 79 0 = " + (1060 + t));
        }
    }
}
