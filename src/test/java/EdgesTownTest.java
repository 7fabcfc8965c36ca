/** The boundary cases of promises 10 to 17: FAULTS, TOWNS, BEARERS, PATHS. */
public final class EdgesTownTest {
    private static final String SEVEN = "b00m00f00r00u00s00b00";
    private static final String ALL_KINDS = "b50 m50 f50 r50 u50 s50 w05 w25 w24 w35 w52";

    public static void main(String[] args) {
        emptyTexts();
        blanks();
        signs();
        figures();
        endsWithinAnItem();
        bearersOfPaths();
        tooMany();
        fullTexts();
        fault();
        town();
        townOfNobody();
        bearer();
        mark();
        markAtNoneAndAll();
        purse();
        snow();
        asks();
        beside();
        Due.end("EdgesTownTest");
    }

    /** The FAULT of a TEXT, and what a TOWN by it answers: how many BEARERS, or STATE. */
    private static void faultIs(String bytes, int fault) {
        long bearers = bytes.chars().filter(c -> "bmfrus".indexOf(c) >= 0).count();
        new Calls("'" + bytes + "'").run("write 0 " + bytes + " = " + bytes.length(),
            "fault 0 = " + (fault < 0 ? "NONE" : fault), "town 0 = " + (fault < 0 ? bearers : "STATE"));
    }

    private static void none(String bytes) {
        faultIs(bytes, -1);
    }

    private static void emptyTexts() {
        none("");
        none(" ");
        none(" ".repeat(80));
    }

    private static void blanks() {
        none("b01");
        none("  b01  ");
        none(" b01m02  f03   w01w02  w12 ");
        faultIs("b 01", 1);
        faultIs("b0 1", 2);
        faultIs("b01m02w 01", 7);
        faultIs("b01m02w0 1", 8);
        faultIs("b01 w", 5);
        // Only 32 is a blank.
        for (char sign : new char[] {0, 9, 10, 13, 31, 33, 95, 127, 128, 160, 255}) {
            faultIs(sign + "b01", 0);
            faultIs("b01" + sign, 3);
            faultIs("b01 m02 w01" + sign, 11);
        }
    }

    private static void signs() {
        for (int sign = 0; sign < 256; sign++) {
            boolean isKind = "bmfrus".indexOf(sign) >= 0;
            boolean isSkipped = sign == ' ';
            faultIs("  " + (char) sign + "00", isKind ? -1 : isSkipped || sign == 'w' ? 3 : 2);
        }
        faultIs("B00", 0);
        faultIs("b00m00W01", 6);
        none("b00m00w01");
    }

    private static void figures() {
        for (int sign = 0; sign < 256; sign++) {
            boolean isFigure = sign >= '0' && sign <= '9';
            faultIs("b" + (char) sign + "0", isFigure ? -1 : 1);
            faultIs("b0" + (char) sign, isFigure ? -1 : 2);
            boolean isBearer = sign == '0' || sign == '1';
            faultIs("b00b00w" + (char) sign + "2", isBearer ? 8 : 7);
            faultIs("b00b00w0" + (char) sign, sign == '1' ? -1 : 8);
        }
        Calls.in("the least and the greatest PURSE", "b00 b99 b09 b90").run("bearer 0 1 = 1 asked 0",
            "bearer 1 1 = 1 asked 99", "bearer 2 1 = 1 asked 9", "bearer 3 1 = 1 asked 90");
        faultIs("b100", 3);
    }

    private static void endsWithinAnItem() {
        faultIs("b", 1);
        faultIs("b0", 2);
        faultIs("  s9", 4);
        faultIs("w", 1);
        faultIs("b00m00w", 7);
        faultIs("b00m00w0", 8);
        faultIs(" ".repeat(79) + "b", 80);
        faultIs(" ".repeat(78) + "b0", 80);
        none(" ".repeat(77) + "b00");
        faultIs(" ".repeat(77) + "b0 ", 79);
    }

    private static void bearersOfPaths() {
        faultIs("w01", 1);
        faultIs("b00w01", 5);
        faultIs("b00w00", 5);
        faultIs("b00w10", 4);
        faultIs("b00m00w00", 8);
        faultIs("b00m00w11", 8);
        faultIs("b00m00w02", 8);
        faultIs("b00m00w20", 7);
        faultIs("b00m00w22", 7);
        faultIs("b00m00w12", 8);
        none("b00m00w10w01");
        none(SEVEN + "w06w60");
        faultIs(SEVEN + "w07", 23);
        faultIs(SEVEN + "w70", 22);
        faultIs(SEVEN + "w66", 23);
    }

    private static void tooMany() {
        none(SEVEN);
        faultIs(SEVEN + "b00", 21);
        faultIs(SEVEN + "  b00", 23);
        faultIs(SEVEN + "b", 21);
        faultIs(SEVEN + "bx", 21);
        faultIs("b00w", 4);
        faultIs("b00m00w01b00", 9);
        faultIs("b00m00w01 s", 10);
        faultIs("b00m00w01b00w01", 9);
        String twelve = "b00m00" + "w01".repeat(12);
        none("b00m00" + "w01".repeat(11));
        none(twelve);
        faultIs(twelve + "w01", 42);
        faultIs(twelve + "w", 42);
        faultIs(twelve + "  w", 44);
        faultIs(twelve + "w99", 42);
        faultIs(twelve + "b00", 42);
        faultIs(twelve + "x", 42);
    }

    private static void fullTexts() {
        String full = "b01 m02 f03 r04 u05 s06 b07 w01 w12 w23 w34 w45 w56 w60 w02 w13 w24 w35 w46";
        none(full + "     ");
        none("     " + full);
        faultIs(full + "    b", 79);
        faultIs(full + "    w", 79);
        Calls.in("seven BEARERS, twelve PATHS", "     " + full).run("count 0 = 7", "count 1 = 12",
            "bearer 6 1 = 1 asked 7", "beside 6 = 49", "snow 11 1 = 0", "beside 6 = 33", "count 5 = 1",
            "snow 12 1 = BAD", "bearer 7 0 = BAD");
    }

    private static void fault() {
        Calls x = new Calls("fault");
        x.run("text 0 0 = 0", "fault 0 = NONE", "text 3 1 = 1", "fault 3 = NONE", "put 3 0 98 = 1032", "fault 3 = 1",
            "put 3 0 0 = 1098", "fault 3 = 0");
        x.run("fault -1 = BAD", "fault 4 = BAD", "fault MIN = BAD", "fault MAX = BAD", "fault 1 = NOTHING",
            "fault 2 = NOTHING");
    }

    private static void town() {
        Calls x = Calls.in("town", "b20 m15 w01 w01");
        x.run("send 0 1 50 3 = 0", "send 1 0 50 3 = 1", "send 0 1 1 1 = 2", "send 0 1 1 1 = 3", "keep 0 = 0",
            "sell 0 1 = 1001", "days 20 = 20", "snow 0 1 = 0", "snow 1 1 = 0", "purse 0 999 = 21", "keep 1 = 20",
            "keep 2 = 20");
        x.run("write 0 b20 m15 w0 = 10", "town 0 = STATE", "town 1 = NOTHING", "town -1 = BAD", "town 4 = BAD",
            "town MIN = BAD", "town MAX = BAD");
        x.run("town 3 = 2", "count 0 = 2", "count 1 = 2", "count 2 = 0", "count 3 = 0", "count 4 = 0", "count 5 = 0",
            "count 7 = 2", "count 8 = 0", "on 0 = NOTHING", "on 1 = NOTHING", "on 2 = NOTHING", "where 0 = BEYOND",
            "undo 1 = BAD", "bearer 0 1 = 1 asked 20", "beside 0 = 2", "gain 0 = 1 asked 0");
        x.run("send 0 1 7 0 = 0", "letter 0 2 = 1 asked 7", "letter 0 3 = 1 asked 0", "letter 0 4 = 1 asked 0",
            "where 0 = 0 asked 0", "sell 0 1 = 1001");
        x.run("write 0 b05 = 3", "town 0 = 1", "count 1 = 0", "bearer 1 0 = BAD", "snow 0 1 = BAD", "beside 0 = 0",
            "send 0 1 5 0 = BAD", "fault 3 = NONE");
        // A TOWN stays as it is, whatever comes to its TEXT.
        x.run("put 0 0 120 = 1098", "fault 0 = 0", "count 0 = 1", "bearer 0 1 = 1 asked 5", "town 0 = STATE");
    }

    private static void townOfNobody() {
        Calls x = Calls.in("a TOWN of nobody", "b20 m15 w01");
        x.run("send 0 1 50 3 = 0", "snow 0 1 = 0", "days 3 = 3", "keep 0 = 3", "text 0 0 = 0", "town 0 = 0");
        for (int what = 0; what <= 8; what++) {
            x.run("count " + what + " = " + (what == 7 ? 2 : 0));
        }
        x.run("bearer 0 0 = BAD", "mark 0 1 = BAD", "purse 0 0 = BAD", "snow 0 0 = BAD", "asks 0 0 = BAD",
            "beside 0 = BAD", "send 0 1 0 0 = BAD", "sell 0 0 = BAD", "days 0 = 0", "where 0 = BEYOND",
            "letter 0 0 = BEYOND", "can 0 = BEYOND", "undo 0 = 0", "undo 1 = BAD", "keep 0 = STATE", "on 0 = NOTHING");
        x.run("cheapest 0 0 = BEYOND", "soonest 0 0 = BEYOND", "comes 0 = BEYOND", "bars 0 = BEYOND", "why 0 = BEYOND",
            "needs 0 = BEYOND", "lend 0 = BEYOND", "block 0 = BEYOND", "worth 0 0 0 = BAD", "bundle 0 = BAD",
            "post 0 = 0 asked 0", "post 99 = 0 asked 0", "fake 0 1 0 = BAD", "gain 0 = BAD", "row 0 0 = 0",
            "had 0 0 = BAD", "sure 0 0 = BAD", "first 0 0 1 = BAD", "luck 1 1 = STATE", "upper = 0", "lower = 1");
    }

    private static void bearer() {
        Calls x = Calls.in("bearer", "b20 u09 b01 r99 f00 s00 b00 w01 w10 w02 w03 w04 w05 w06");
        x.run("bearer 0 0 = 1 asked 0", "bearer 1 0 = 1 asked 4", "bearer 2 0 = 1 asked 0", "bearer 3 0 = 1 asked 3",
            "bearer 4 0 = 1 asked 2", "bearer 5 0 = 1 asked 5", "bearer 6 0 = 1 asked 0");
        x.run("bearer 3 1 = 1 asked 99", "bearer 4 1 = 1 asked 0", "purse 4 999 = 0", "bearer 4 1 = 1 asked 999");
        x.run("bearer 0 2 = 1 asked 6", "bearer 1 2 = 1 asked 1", "snow 0 1 = 0", "bearer 0 2 = 1 asked 6",
            "snow 1 1 = 0", "bearer 0 2 = 1 asked 5", "bearer 1 2 = 1 asked 0", "snow 0 0 = 1",
            "bearer 1 2 = 1 asked 1");
        x.run("bearer 0 3 = 1 asked 0", "send 0 4 50 0 = 0", "send 0 4 50 0 = 1", "send 0 4 50 0 = 2",
            "send 0 4 50 0 = 3", "bearer 0 3 = 1 asked 4", "sell 0 4 = 1001", "bearer 0 3 = 1 asked 3",
            "bearer 4 3 = 1 asked 0", "sell 1 2 = 1", "bearer 2 3 = 1 asked 1", "bearer 0 3 = 1 asked 2");
        x.run("bearer -1 0 = BAD", "bearer 7 0 = BAD", "bearer MIN 0 = BAD", "bearer MAX 0 = BAD", "bearer 0 -1 = BAD",
            "bearer 0 4 = BAD", "bearer 0 MIN = BAD", "bearer 0 MAX = BAD", "bearer 7 4 = BAD", "asked = 2");
    }

    private static void mark() {
        Calls x = Calls.in("mark", ALL_KINDS);
        String[][] wants = {{"UNLIKE", "UNLIKE", "UNLIKE", "UNLIKE", "UNLIKE"},
            {"2", "UNLIKE", "UNLIKE", "UNLIKE", "UNLIKE"}, {"UNLIKE", "1", "UNLIKE", "UNLIKE", "UNLIKE"},
            {"UNLIKE", "UNLIKE", "0", "UNLIKE", "UNLIKE"}, {"5", "UNLIKE", "UNLIKE", "26", "UNLIKE"},
            {"UNLIKE", "1", "UNLIKE", "UNLIKE", "0"}};
        for (int k = 0; k < 6; k++) {
            x.run("mark " + k + " 0 = BAD", "mark " + k + " -1 = BAD", "mark " + k + " 6 = BAD",
                "mark " + k + " MIN = BAD", "mark " + k + " MAX = BAD");
            for (int kind = 1; kind <= 5; kind++) {
                x.run("mark " + k + " " + kind + " = " + wants[k][kind - 1]);
            }
        }
        x.run("mark -1 1 = BAD", "mark 6 1 = BAD", "mark MIN 1 = BAD", "mark MAX 1 = BAD", "mark 6 0 = BAD");
    }

    private static void markAtNoneAndAll() {
        Calls x = Calls.in("mark at none and all", "f50 s50 f50 s50 f50 s50 r50 w01 w02 w03 w04 w05 w06 w10 w56");
        x.run("mark 0 2 = 5", "mark 1 2 = 1", "snow 0 1 = 0", "mark 0 2 = 5", "snow 6 1 = 0", "mark 0 2 = 4",
            "mark 1 2 = 0", "mark 5 2 = 1");
        x.run("mark 6 3 = 0", "send 0 6 9 0 = 0", "send 5 6 9 0 = 1", "send 0 6 9 0 = 2", "mark 6 3 = 3",
            "send 0 6 9 0 = 3", "mark 6 3 = 4", "sell 0 6 = 1000", "mark 6 3 = 3", "undo 0 = 1", "mark 6 3 = 4");
        Calls y = Calls.in("mark of a SAINT", "u50 s50 b50 b50 w01 w12 w13");
        y.run("mark 1 5 = 0", "send 0 2 50 0 = 0", "send 0 1 50 0 = 1", "send 0 3 50 0 = 2", "send 1 0 50 0 = 3",
            "mark 1 5 = 0", "sell 0 1 = 6", "mark 1 5 = 6", "sell 1 1 = 1006", "mark 1 5 = 6", "sell 2 1 = 6",
            "mark 1 5 = 12", "days 1 = 1", "sell 0 2 = 1000", "mark 1 5 = 6");
    }

    private static void purse() {
        Calls x = Calls.in("purse", "b20 b00 b00 b00 b00 b00 b99");
        x.run("purse 0 0 = 20", "purse 0 999 = 0", "purse 0 0 = 999", "purse 6 1 = 99", "purse 6 998 = 1",
            "bearer 5 1 = 1 asked 0", "bearer 6 1 = 1 asked 998");
        x.run("purse 0 -1 = BAD", "purse 0 1000 = BAD", "purse 0 MIN = BAD", "purse 0 MAX = BAD", "purse -1 0 = BAD",
            "purse 7 0 = BAD", "purse MIN 0 = BAD", "purse MAX 0 = BAD");
        // A sale may bring more than purse() itself can put there.
        Calls.in("a PURSE above 999", "b99 b05 w01").run("purse 0 999 = 99", "send 0 1 9 0 = 0", "sell 0 1 = 1001",
            "bearer 0 1 = 1 asked 1000", "purse 0 999 = 1000");
    }

    private static void snow() {
        Calls x = Calls.in("snow", "b20 b30" + " w01".repeat(12));
        x.run("snow 0 1 = 0", "snow 11 1 = 0", "snow 0 1 = 1", "count 5 = 2", "snow 5 0 = 0", "beside 0 = 2");
        x.run("snow -1 1 = BAD", "snow 12 1 = BAD", "snow MIN 1 = BAD", "snow MAX 1 = BAD", "snow 31 1 = BAD",
            "snow 32 1 = BAD", "snow 0 2 = BAD", "snow 0 -1 = BAD", "snow 0 MIN = BAD", "snow 0 MAX = BAD");
        for (int i = 1; i <= 10; i++) {
            x.run("snow " + i + " 1 = 0");
        }
        x.run("count 5 = 12", "beside 0 = 0", "beside 1 = 0", "snow 11 0 = 1", "count 5 = 11", "beside 0 = 2",
            "beside 1 = 1", "snow 11 0 = 0");
        Calls.in("no PATHS", "b20 b30").run("snow 0 0 = BAD", "snow 0 1 = BAD");
    }

    private static void asks() {
        Calls x = Calls.in("asks", "b20 m15 f05 r30 u09 s12");
        int[][] wants = {{1, 2, 11, 1000}, {3, 4, 13, 1002}, {0, 1, 10, 999}, {1, 2, 11, 1000}, {6, 8, 26, 2004},
            {0, 0, 0, 0}};
        for (int k = 0; k < 6; k++) {
            x.run("asks " + k + " 0 = " + wants[k][0], "asks " + k + " 1 = " + wants[k][1],
                "asks " + k + " 10 = " + wants[k][2], "asks " + k + " 999 = " + wants[k][3],
                "asks " + k + " -1 = BAD", "asks " + k + " 1000 = BAD", "asks " + k + " MIN = BAD",
                "asks " + k + " MAX = BAD");
        }
        x.run("asks -1 0 = BAD", "asks 6 0 = BAD", "asks MIN 0 = BAD", "asks MAX 0 = BAD");
    }

    private static void beside() {
        Calls x = Calls.in("beside", "b20 b20 b20 b20 b20 b20 b20 w06 w16 w26 w36 w46 w56 w60");
        x.run("beside 6 = 63", "beside 0 = 64", "beside 5 = 64", "snow 0 1 = 0", "beside 6 = 63", "snow 6 1 = 0",
            "beside 6 = 62", "beside 0 = 0", "snow 5 1 = 0", "beside 6 = 30", "beside 5 = 0");
        x.run("beside -1 = BAD", "beside 7 = BAD", "beside MIN = BAD", "beside MAX = BAD");
    }
}
