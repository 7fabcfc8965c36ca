/** The boundary cases of promises 18 to 26: LETTERS sent, SOLD, undone, TOWNS kept. */
public final class EdgesLettersTest {
    public static void main(String[] args) {
        send();
        sendFull();
        worthFalls();
        sellRefused();
        sellByPurse();
        sellByWorth();
        sellByWays();
        onceADay();
        readGoesNowhere();
        readersBuyTheirOwn();
        fortySales();
        days();
        where();
        letter();
        can();
        undo();
        undoOfPurses();
        undoOfSameDay();
        undoForty();
        keep();
        keepIsACopy();
        keepsOtherLetters();
        on();
        Due.end("EdgesLettersTest");
    }

    private static void send() {
        Calls x = Calls.in("send", "b20 r30 b10 b00 b00 b00 s00");
        x.run("send -1 1 5 0 = BAD", "send 7 1 5 0 = BAD", "send MIN 1 5 0 = BAD", "send MAX 1 5 0 = BAD",
            "send 0 -1 5 0 = BAD", "send 0 7 5 0 = BAD", "send 0 MIN 5 0 = BAD", "send 0 MAX 5 0 = BAD");
        for (int k = 0; k < 7; k++) {
            x.run("send " + k + " " + k + " 5 0 = BAD");
        }
        x.run("send 0 1 -1 0 = BAD", "send 0 1 100 0 = BAD", "send 0 1 MIN 0 = BAD", "send 0 1 MAX 0 = BAD",
            "send 0 1 5 -1 = BAD", "send 0 1 5 10 = BAD", "send 0 1 5 MIN = BAD", "send 0 1 5 MAX = BAD");
        x.run("count 3 = 0", "send 0 6 0 0 = 0", "letter 0 2 = 1 asked 0", "send 6 0 99 9 = 1",
            "letter 1 2 = 1 asked 99", "letter 1 0 = 1 asked 6", "letter 1 1 = 1 asked 0", "where 1 = 6 asked 0");
    }

    private static void sendFull() {
        Calls x = Calls.in("send a fifth", "b20 b30 w01");
        x.run("send 0 1 1 0 = 0", "send 0 1 2 0 = 1", "send 0 1 3 0 = 2", "send 1 0 4 0 = 3", "count 3 = 4",
            "send 0 1 5 0 = FULL", "send 0 1 99 9 = FULL", "send 0 0 5 0 = BAD", "send 0 1 100 0 = BAD",
            "send 0 1 5 10 = BAD", "send 2 1 5 0 = BAD");
        // One that was READ stays a LETTER, and so does one whose sale is undone.
        x.run("sell 3 0 = 1001", "send 0 1 5 0 = FULL", "undo 0 = 1", "send 0 1 5 0 = FULL", "count 3 = 4",
            "where 4 = BEYOND", "letter 3 2 = 1 asked 4");
        x.run("keep 0 = 0", "on 0 = 0", "send 0 1 5 0 = FULL", "town 3 = 2", "send 0 1 5 0 = 0");
    }

    private static void worthFalls() {
        Calls x = Calls.in("WORTH", "b20 b30 w01");
        x.run("send 0 1 99 9 = 0", "send 0 1 9 1 = 1", "days 1 = 1", "letter 0 2 = 1 asked 90",
            "letter 1 2 = 1 asked 8", "days 8 = 9", "letter 1 2 = 1 asked 0", "days 1 = 10", "letter 1 2 = 1 asked 0",
            "letter 0 2 = 1 asked 9", "days 1 = 11", "letter 0 2 = 1 asked 0", "days 1 = 12",
            "letter 0 2 = 1 asked 0");
        x.run("send 0 1 99 9 = 2", "letter 2 2 = 1 asked 99", "days 1 = 13", "letter 2 2 = 1 asked 90",
            "send 0 1 99 0 = 3", "days 20 4 times = 93", "days 6 = 99", "letter 3 2 = 1 asked 99",
            "letter 2 2 = 1 asked 0", "letter 0 2 = 1 asked 0");
    }

    private static void sellRefused() {
        Calls x = Calls.in("sell", "b20 b30 w01");
        x.run("sell 0 1 = BEYOND", "send 0 1 9 0 = 0");
        x.run("sell -1 1 = BAD", "sell MIN 1 = BAD", "sell 0 -1 = BAD", "sell 0 2 = BAD", "sell 0 MIN = BAD",
            "sell 0 MAX = BAD", "sell 1 2 = BAD", "sell -1 2 = BAD");
        x.run("sell 1 1 = BEYOND", "sell 4 1 = BEYOND", "sell MAX 1 = BEYOND", "sell 1 0 = BEYOND");
        x.run("sell 0 0 = STATE", "sell 0 1 = 1001", "sell 0 0 = STATE", "sell 0 1 = STATE", "sell 1 1 = BEYOND");
    }

    private static void sellByPurse() {
        Calls x = Calls.in("sell by PURSE", "u20 b05 b09 s00 w01 w12 w23");
        x.run("send 0 2 99 0 = 0", "sell 0 1 = STATE", "purse 1 6 = 5", "sell 0 1 = 6", "bearer 1 1 = 1 asked 0",
            "bearer 0 1 = 1 asked 26", "days 1 = 1");
        x.run("purse 2 6 = 9", "sell 0 2 = STATE", "purse 2 7 = 6", "sell 0 2 = 1007", "bearer 2 1 = 1 asked 0",
            "bearer 1 1 = 1 asked 7");
        x.run("send 3 0 99 0 = 1", "purse 2 0 = 0", "sell 1 2 = 0", "where 1 = 2 asked 0", "bearer 2 1 = 1 asked 0",
            "bearer 3 1 = 1 asked 0");
    }

    private static void sellByWorth() {
        Calls x = Calls.in("sell by WORTH", "m20 b50 s09 w01 w12 w02");
        x.run("send 0 1 2 0 = 0", "sell 0 1 = STATE", "send 0 1 3 0 = 1", "sell 1 1 = 1003", "send 0 1 4 1 = 2",
            "days 2 = 2", "sell 2 1 = STATE", "sell 2 2 = 3", "days 1 = 3", "sell 2 1 = 1000");
        // Whom it is not to buys it, whatever it is worth.
        x.run("send 0 2 0 9 = 3", "sell 3 1 = 3", "sell 3 2 = STATE", "days 1 = 4", "sell 3 2 = STATE",
            "sell 3 0 = 4", "bearer 0 1 = 1 asked " + (20 + 3 + 3 + 3 - 4));
        Calls.in("worth nothing, for nothing", "s20 b00 w01").run("send 0 1 0 9 = 0", "days 20 = 20",
            "sell 0 1 = 1000", "where 0 = 1 asked 0", "letter 0 4 = 1 asked 1");
        Calls.in("on the last DAY of its WORTH", "b20 b05 w01").run("send 0 1 9 4 = 0", "days 2 = 2",
            "sell 0 1 = 1001", "undo 0 = 1", "days 1 = 3", "sell 0 1 = STATE");
    }

    private static void sellByWays() {
        Calls x = Calls.in("sell by ways", "b20 b50 b50 w01 w12 w10");
        x.run("send 0 2 50 0 = 0", "sell 0 2 = STATE", "snow 0 1 = 0", "sell 0 1 = 1", "days 1 = 1", "snow 1 1 = 0",
            "sell 0 2 = STATE", "snow 2 1 = 0", "sell 0 0 = STATE", "snow 0 0 = 1", "sell 0 0 = 2", "days 1 = 2",
            "sell 0 0 = STATE", "sell 0 1 = 3", "days 1 = 3", "snow 1 0 = 1", "sell 0 2 = 1004");
    }

    private static void onceADay() {
        Calls x = Calls.in("once a DAY", "b20 b50 b50 w01 w12");
        x.run("send 0 2 50 0 = 0", "send 0 2 50 0 = 1", "sell 0 1 = 1", "sell 0 2 = STATE", "sell 0 0 = STATE",
            "sell 1 1 = 1", "days 0 = 0", "sell 0 2 = STATE", "days 1 = 1", "sell 0 2 = 1002", "sell 1 2 = 1002");
        Calls y = Calls.in("once a DAY, on DAY 99", "b20 b50 b50 w01 w12");
        y.run("days 20 4 times = 80", "days 19 = 99", "send 0 2 50 9 = 0", "sell 0 1 = 1", "sell 0 2 = STATE",
            "can 0 = 0", "undo 0 = 1", "can 0 = 2", "letter 0 2 = 1 asked 50");
    }

    private static void readGoesNowhere() {
        Calls x = Calls.in("READ", "f20 f50 b50 w01 w12");
        x.run("send 0 1 50 0 = 0", "sell 0 1 = 1000", "letter 0 3 = 1 asked 1", "can 0 = 0", "days 1 = 1", "can 0 = 0",
            "sell 0 0 = STATE", "sell 0 2 = STATE", "luck 3 5 = 0", "where 0 = 1 asked 0", "count 4 = 1",
            "letter 0 4 = 1 asked 1", "letter 0 2 = 1 asked 50");
    }

    private static void readersBuyTheirOwn() {
        Calls x = Calls.in("READERS", "b20 r50 r50 b50 w01 w12 w02 w23");
        x.run("send 0 2 50 0 = 0", "can 0 = 4", "sell 0 1 = STATE", "send 0 3 50 0 = 1", "can 1 = 0",
            "sell 1 1 = STATE", "sell 1 2 = STATE", "sell 0 2 = 1001");
        // A READER may send one all the same.
        x.run("send 2 3 50 0 = 2", "can 2 = 9", "sell 2 3 = 1001", "send 2 0 1 0 = 3", "sell 3 0 = 1001");
    }

    private static void fortySales() {
        Calls x = Calls.in("forty sales", "f00 f00 b00 w01");
        x.run("send 0 2 9 0 = 0", "send 0 2 9 0 = 1", "send 0 1 9 0 = 2");
        for (int i = 0; i < 39; i++) {
            x.run("sell 0 " + (1 - i % 2) + " = 0", "days 1 = " + (i + 1));
        }
        x.run("count 4 = 39", "sell 0 0 = 0", "count 4 = 40", "sell 0 1 = STATE", "sell 1 1 = FULL", "sell 2 1 = FULL",
            "sell 1 0 = STATE", "sell 1 2 = STATE", "sell 3 1 = BEYOND", "sell 1 3 = BAD", "sell -1 1 = BAD",
            "can 1 = 2", "bundle 1 = 2 asked 6");
        x.run("undo 40 = 0", "sell 1 1 = FULL", "undo 39 = 1", "count 4 = 39", "sell 1 1 = 0", "sell 0 0 = FULL");
        x.run("keep 0 = 39", "sell 0 0 = FULL", "on 0 = 39", "count 4 = 0", "sell 0 0 = 0", "count 4 = 1",
            "letter 0 4 = 1 asked 40");
    }

    private static void days() {
        Calls x = new Calls("days");
        x.run("days 0 = 0", "days -1 = BAD", "days 21 = BAD", "days MIN = BAD", "days MAX = BAD",
            "days 20 4 times = 80", "days 20 = FULL", "days 21 = BAD", "days 18 = 98", "days 2 = FULL", "days 1 = 99",
            "days 0 = 99", "days 1 = FULL", "days 20 = FULL", "days -1 = BAD", "days MIN = BAD", "days MAX = BAD",
            "count 2 = 99");
        new Calls("days to 99 at once").run("days 20 3 times = 60", "days 19 = 79", "days 20 = 99");
    }

    private static void where() {
        Calls x = Calls.in("where", "m20 b15 w01");
        x.run("where 0 = BEYOND", "where -1 = BAD", "send 0 1 9 0 = 0", "where 0 = 0 asked 0", "sell 0 1 = 1003",
            "where 0 = 1 asked 3", "where 1 = BEYOND", "where 4 = BEYOND", "where MAX = BEYOND", "where -1 = BAD",
            "where MIN = BAD", "asked = 3", "send 1 0 1 1 = 1", "send 1 0 1 1 = 2", "send 1 0 1 1 = 3",
            "where 3 = 1 asked 0", "where 4 = BEYOND");
    }

    private static void letter() {
        Calls x = Calls.in("letter", "m20 b15 w01");
        x.run("letter 0 0 = BEYOND", "letter 0 5 = BAD", "send 1 0 9 0 = 0", "letter 0 0 = 1 asked 1",
            "letter 0 1 = 1 asked 0", "letter 0 4 = 1 asked 0", "letter 0 3 = 1 asked 0", "letter 0 5 = BAD",
            "letter 0 -1 = BAD", "letter 0 MIN = BAD", "letter 0 MAX = BAD", "letter -1 0 = BAD", "letter MIN 0 = BAD",
            "letter 1 0 = BEYOND", "letter MAX 4 = BEYOND", "letter 1 5 = BAD", "letter 1 -1 = BAD",
            "letter -1 5 = BAD", "asked = 0", "sell 0 0 = 1001", "letter 0 4 = 1 asked 1", "letter 0 3 = 1 asked 1",
            "undo 0 = 1", "letter 0 4 = 1 asked 0", "letter 0 3 = 1 asked 0");
    }

    private static void can() {
        Calls x = Calls.in("can", "b20 b01 b00 r09 s00 f09 b09 w01 w02 w03 w04 w05 w06");
        x.run("can 0 = BEYOND", "can -1 = BAD", "can MIN = BAD", "can MAX = BEYOND", "send 0 3 0 0 = 0",
            "can 0 = " + (2 + 32 + 64), "send 0 3 1 0 = 1", "can 1 = " + (2 + 8 + 32 + 64), "can 2 = BEYOND");
        x.run("purse 1 0 = 1", "can 1 = " + (8 + 32 + 64), "purse 2 999 = 0", "can 1 = " + (4 + 8 + 32 + 64),
            "snow 5 1 = 0", "can 1 = " + (4 + 8 + 32), "send 1 0 1 0 = 2", "can 2 = 1", "purse 0 0 = 20", "can 2 = 0",
            "purse 0 1 = 0", "can 2 = 1", "sell 2 0 = 1001", "can 2 = 0", "sell 1 5 = 1", "can 1 = 0", "days 1 = 1",
            "can 1 = 1", "purse 0 0 = " + (1 - 1 + 1), "can 1 = 0");
        Calls.in("can to all", "s00 b00 b00 b00 b00 b00 b00 w01 w02 w03 w04 w05 w06").run("send 0 6 0 9 = 0",
            "can 0 = 126");
    }

    private static void undo() {
        Calls x = Calls.in("undo", "b20 m15 f05 w01 w12");
        x.run("undo 0 = 0", "undo 1 = BAD", "undo -1 = BAD", "undo MIN = BAD", "undo MAX = BAD", "send 0 2 50 2 = 0",
            "send 2 0 50 0 = 1", "sell 0 1 = 1", "sell 1 1 = 0", "days 1 = 1", "sell 0 2 = 1004");
        x.run("undo 4 = BAD", "undo -1 = BAD", "undo MIN = BAD", "undo MAX = BAD", "undo 3 = 0", "count 4 = 3",
            "undo 2 = 1", "count 4 = 2", "undo 3 = BAD", "letter 0 3 = 1 asked 0", "letter 0 2 = 1 asked 48",
            "where 0 = 1 asked 1", "sell 0 2 = 1004", "snow 0 1 = 0", "send 0 1 3 0 = 2", "days 2 = 3");
        x.run("undo 0 = 3", "count 4 = 0", "undo 0 = 0", "undo 1 = BAD", "count 2 = 3", "count 3 = 3", "count 5 = 1",
            "where 0 = 0 asked 0", "where 1 = 2 asked 0", "letter 0 4 = 1 asked 0", "bearer 0 1 = 1 asked 20",
            "bearer 1 1 = 1 asked 15", "bearer 2 1 = 1 asked 5", "gain 1 = 1 asked 0");
    }

    private static void undoOfPurses() {
        Calls x = Calls.in("undo and purse()", "b20 m15 f05 w01 w12");
        x.run("send 0 2 50 2 = 0", "purse 2 70 = 5", "sell 0 1 = 1", "purse 0 999 = 21", "purse 2 71 = 70",
            "days 1 = 1", "sell 0 2 = 1004", "purse 1 0 = 18", "purse 0 1 = 999");
        x.run("undo 1 = 1", "bearer 0 1 = 1 asked 999", "bearer 1 1 = 1 asked 14", "bearer 2 1 = 1 asked 71",
            "purse 1 3 = 14", "undo 1 = 0", "bearer 1 1 = 1 asked 3", "undo 0 = 1", "bearer 0 1 = 1 asked 20",
            "bearer 1 1 = 1 asked 15", "bearer 2 1 = 1 asked 70");
    }

    /** What was SOLD on this DAY and undone can be SOLD on it once more, and what was SOLD ahead of it can't. */
    private static void undoOfSameDay() {
        Calls x = Calls.in("undo on a DAY", "f20 f20 f20 w01 w12");
        x.run("send 0 2 50 0 = 0", "sell 0 1 = 0", "can 0 = 0", "undo 0 = 1", "can 0 = 2", "sell 0 1 = 0",
            "days 1 = 1", "sell 0 0 = 0", "can 0 = 0", "undo 1 = 1", "can 0 = 5", "undo 0 = 1", "can 0 = 2");
        Calls y = Calls.in("undo of one of two on a DAY", "f20 f20 f20 w01 w12");
        y.run("send 0 2 50 0 = 0", "send 1 2 50 0 = 1", "sell 0 1 = 0", "sell 1 0 = 0", "undo 1 = 1", "can 0 = 0",
            "can 1 = 5", "undo 0 = 1", "can 0 = 2");
    }

    private static void undoForty() {
        Calls x = Calls.in("undo of forty", "b99 b99 b00 w01");
        x.run("purse 0 999 = 99", "purse 1 999 = 99", "send 0 2 9 0 = 0", "luck 40 1 = 0", "count 4 = 40",
            "where 0 = 0 asked 40", "undo 41 = BAD", "undo 40 = 0", "undo 39 = 1", "where 0 = 1 asked 39",
            "undo 0 = 39", "where 0 = 0 asked 0", "bearer 0 1 = 1 asked 999", "bearer 1 1 = 1 asked 999",
            "count 2 = 40");
    }

    private static void keep() {
        Calls x = new Calls("keep");
        x.run("keep 0 = STATE", "keep 2 = STATE", "keep -1 = BAD", "keep 3 = BAD", "keep MIN = BAD", "keep MAX = BAD",
            "write 0 b20 m15 w01 = 11", "town 0 = 2", "keep -1 = BAD", "keep 3 = BAD", "keep MIN = BAD",
            "keep MAX = BAD", "count 8 = 0", "keep 0 = 0", "count 8 = 1", "keep 2 = 0", "count 8 = 2", "keep 2 = 0",
            "count 8 = 2", "keep 1 = 0", "count 8 = 3", "days 20 4 times = 80", "days 19 = 99", "keep 1 = 99",
            "count 8 = 3", "on 0 = 0", "on 1 = 99", "on 2 = 0");
    }

    private static void keepIsACopy() {
        Calls x = Calls.in("keep is a copy", "b20 m15 f05 w01 w12");
        x.run("send 0 2 50 1 = 0", "sell 0 1 = 1", "snow 0 1 = 0", "keep 0 = 0", "count 4 = 1", "undo 0 = 1",
            "count 4 = 0", "where 0 = 0 asked 0", "snow 0 0 = 1", "purse 0 7 = 20", "days 5 = 5", "send 2 0 9 0 = 1",
            "keep 1 = 5");
        x.run("on 0 = 0", "where 0 = 1 asked 1", "letter 0 4 = 1 asked 1", "can 0 = 0", "count 3 = 1", "count 5 = 1",
            "count 4 = 0", "bearer 0 1 = 1 asked 21", "bearer 1 1 = 1 asked 14", "letter 0 2 = 1 asked 50",
            "undo 1 = BAD", "undo 0 = 0", "gain 0 = 1 asked 0");
        x.run("days 1 = 1", "sell 0 2 = 1004", "on 0 = 0", "letter 0 3 = 1 asked 0", "on 1 = 5", "count 3 = 2",
            "where 0 = 0 asked 0", "can 0 = 2", "bearer 0 1 = 1 asked 7", "letter 0 2 = 1 asked 45", "count 5 = 0",
            "on 1 = 5", "count 8 = 2");
    }

    /** LETTER 0 is another one in each place, and none in one of them. */
    private static void keepsOtherLetters() {
        Calls x = Calls.in("other LETTERS are kept", "b20 m15 f05 s00 w01 w12 w03");
        x.run("keep 0 = 0", "send 0 2 50 1 = 0", "sell 0 1 = 1", "days 2 = 2", "sell 0 2 = 1004", "keep 1 = 2",
            "on 0 = 0", "count 3 = 0", "days 7 = 7", "send 3 1 99 9 = 0", "letter 0 3 = 1 asked 0",
            "letter 0 4 = 1 asked 0", "where 0 = 3 asked 0", "sell 0 0 = 0", "keep 2 = 7");
        x.run("on 1 = 2", "letter 0 0 = 1 asked 0", "letter 0 1 = 1 asked 2", "letter 0 2 = 1 asked 48",
            "letter 0 3 = 1 asked 1", "letter 0 4 = 1 asked 2", "where 0 = 2 asked 4", "can 0 = 0", "days 3 = 5",
            "letter 0 2 = 1 asked 45");
        x.run("on 2 = 7", "letter 0 0 = 1 asked 3", "letter 0 1 = 1 asked 1", "letter 0 2 = 1 asked 99",
            "letter 0 3 = 1 asked 0", "letter 0 4 = 1 asked 1", "where 0 = 0 asked 0", "can 0 = 0", "days 1 = 8",
            "letter 0 2 = 1 asked 90", "can 0 = 2", "on 0 = 0", "where 0 = BEYOND", "can 0 = BEYOND");
    }

    private static void on() {
        Calls x = new Calls("on");
        x.run("on 0 = NOTHING", "on 2 = NOTHING", "on -1 = BAD", "on 3 = BAD", "on MIN = BAD", "on MAX = BAD",
            "write 0 b20 m15 w01 = 11", "town 0 = 2", "on 0 = NOTHING", "days 3 = 3", "keep 1 = 3", "on 0 = NOTHING",
            "on 2 = NOTHING", "on -1 = BAD", "on 3 = BAD", "days 3 = 6", "on 1 = 3", "on 1 = 3", "count 8 = 1",
            "town 0 = 2", "on 1 = NOTHING", "count 8 = 0");
    }
}
