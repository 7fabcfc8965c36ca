/** Promises 35 to 39: worth, bundles, a post, false news, gain. */
public final class WorthTest {
    private static final int BAD = DearLetters.BAD, STATE = DearLetters.STATE;

    public static void main(String[] args) {
        promise35();
        promise36();
        promise37();
        promise38();
        promise39();
        Due.end("WorthTest");
    }

    private static void promise35() {
        DearLetters x = Due.town("b00 b00 b00 r00 b00 w01 w12 w03 w32");
        x.send(0, 2, 50, 2);
        Due.is("to whom it is", x.worth(0, 2, 0), 50);
        Due.is("to whom it is, later", x.worth(0, 2, 20), 10);
        Due.is("beside", x.worth(0, 1, 0), 47);
        Due.is("two away, not by the reader", x.worth(0, 0, 0), 44);
        Due.is("a reader has it from no one, but may hold it", x.worth(0, 3, 0), 47);
        Due.is("beside no one", x.worth(0, 4, 0), 0);
        Due.is("later", x.worth(0, 1, 19), 9);
        Due.is("at 20 for others", x.worth(0, 1, 20), 0);
        Due.is("too late for two", x.worth(0, 0, 19), 0);
        x.days(3);
        Due.is("days on", x.worth(0, 1, 0), 41);
        x.snow(1, 1);
        Due.is("through snow", x.worth(0, 1, 0), 0);
        x.send(0, 3, 9, 9);
        Due.is("to a reader", x.worth(1, 0, 0), 0);
        x.send(0, 3, 9, 1);
        Due.is("to a reader, falling slowly", x.worth(2, 0, 0), 7);
        Due.is("and one ahead", x.worth(2, 1, 0), 5);
        Due.refused("worth of -1", x, () -> x.worth(-1, 0, 0), BAD);
        Due.refused("worth to -1", x, () -> x.worth(0, -1, 0), BAD);
        Due.refused("worth to 5", x, () -> x.worth(0, 5, 0), BAD);
        Due.refused("worth -1 days on", x, () -> x.worth(0, 0, -1), BAD);
        Due.refused("worth 21 days on", x, () -> x.worth(0, 0, 21), BAD);
        Due.refused("BAD ahead of BEYOND", x, () -> x.worth(3, 5, 0), BAD);
        Due.finding("worth of none", x, () -> x.worth(3, 0, 0), Due.BEYOND);
        x.send(0, 1, 9, 0);
        x.purse(1, 5);
        Due.is("read", x.sell(3, 1), 1001);
        Due.refused("worth of a read one", x, () -> x.worth(3, 0, 0), STATE);
        Due.refused("BAD ahead of STATE", x, () -> x.worth(3, 0, 21), BAD);
    }

    private static void promise36() {
        DearLetters x = Due.town("u50 b50 m50 f09 w03 w13 w23");
        x.send(0, 1, 9, 0);
        x.send(2, 1, 9, 0);
        x.send(1, 2, 9, 0);
        x.send(2, 0, 9, 0);
        Due.told("three of 3, 1 and 3", x, x.bundle(3), 3, 2 + 4 + 8);
        x.purse(3, 6);
        Due.told("two, the least bits", x, x.bundle(3), 2, 2 + 4);
        x.purse(3, 4);
        Due.told("just two", x, x.bundle(3), 2, 2 + 4);
        x.purse(3, 3);
        Due.told("one, the least bits", x, x.bundle(3), 1, 2);
        x.purse(3, 10);
        Due.told("all do not fit", x, x.bundle(3), 3, 1 + 2 + 4);
        x.purse(3, 13);
        Due.told("all fit", x, x.bundle(3), 4, 15);
        x.purse(3, 0);
        Due.told("none", x, x.bundle(3), 0, 0);
        x.purse(3, 50);
        x.sell(1, 3);
        Due.told("one's own is none", x, x.bundle(3), 3, 1 + 4 + 8);
        Due.told("not again today", x, x.bundle(1), 0, 0);
        x.days(1);
        Due.told("to whom it is", x, x.bundle(1), 1, 2);
        Due.refused("bundle of -1", x, () -> x.bundle(-1), BAD);
        Due.refused("bundle of 4", x, () -> x.bundle(4), BAD);
    }

    private static void promise37() {
        DearLetters x = Due.town("b20 b15 r30 b00 w01 w12");
        // 0-1: 1, 1-0: 1, 0-2: 2, 2-0: 2, 1-2: 1, 2-1: 1, and none of the six with 3.
        Due.told("post at 0", x, x.post(0), 12, 6);
        Due.told("post at 1", x, x.post(1), 8, 6);
        Due.told("post at 2", x, x.post(2), 6, 6);
        Due.told("post at 99", x, x.post(99), 6, 6);
        x.send(0, 2, 9, 0);
        x.purse(1, 0);
        Due.told("purses", x, x.post(99), 10, 10);
        x.purse(1, 15);
        x.snow(1, 1);
        Due.told("snow", x, x.post(99), 10, 10);
        Due.refused("post at -1", x, () -> x.post(-1), BAD);
        Due.refused("post at 100", x, () -> x.post(100), BAD);
        DearLetters nobody = new DearLetters();
        Due.told("nobody", nobody, nobody.post(5), 0, 0);
    }

    private static void promise38() {
        DearLetters x = Due.town("b20 u15 b30 b00 w01 w12 w13");
        Due.is("fake", x.fake(0, 2, 99), 8);
        Due.is("fake, just worth it", x.fake(0, 2, 8), 8);
        Due.is("fake, too dear", x.fake(0, 2, 7), 0);
        Due.is("fake, worth nothing", x.fake(0, 1, 0), 0);
        Due.is("fake, worth one", x.fake(0, 1, 1), 1);
        Due.is("fake, an empty purse", x.fake(0, 3, 99), 0);
        Due.is("fake by who can't pay", x.fake(3, 0, 99), 8);
        Due.refused("fake by -1", x, () -> x.fake(-1, 0, 5), BAD);
        Due.refused("fake to 4", x, () -> x.fake(0, 4, 5), BAD);
        Due.refused("fake to oneself", x, () -> x.fake(2, 2, 5), BAD);
        Due.refused("fake worth -1", x, () -> x.fake(0, 2, -1), BAD);
        Due.refused("fake worth 100", x, () -> x.fake(0, 2, 100), BAD);
        Due.is("none is sent", x.count(3), 0);
    }

    private static void promise39() {
        DearLetters x = Due.town("b20 u15 b30 w01 w12");
        x.send(0, 2, 50, 0);
        x.send(2, 0, 50, 0);
        Due.told("no sales", x, x.gain(0), 1, 0);
        x.sell(0, 1);
        x.sell(1, 1);
        x.days(1);
        x.sell(0, 2);
        x.purse(1, 500);
        Due.told("gain of 0", x, x.gain(0), 1, 1);
        Due.told("gain of 1", x, x.gain(1), 1, 8 - 1 - 1);
        Due.told("gain of 2", x, x.gain(2), 1, 1 - 8);
        x.undo(2);
        Due.told("undone", x, x.gain(1), 1, -2);
        x.keep(0);
        x.on(0);
        Due.told("of those that can be undone", x, x.gain(1), 1, 0);
        Due.refused("gain of -1", x, () -> x.gain(-1), BAD);
        Due.refused("gain of 3", x, () -> x.gain(3), BAD);
    }
}
