/** Promises 10 to 17: FAULTS, TOWNS, BEARERS, PATHS. */
public final class TownTest {
    private static final int BAD = DearLetters.BAD, NONE = DearLetters.NONE, STATE = DearLetters.STATE;

    public static void main(String[] args) {
        promise10();
        promise11();
        promise12();
        promise13();
        promise14();
        promise15();
        promise16();
        promise17();
        Due.end("TownTest");
    }

    private static void faultIs(String s, int want) {
        DearLetters x = new DearLetters();
        Due.write(x, 2, s);
        Due.is("fault of '" + s + "'", x.fault(2), want);
        Due.is("town of '" + s + "' is or is not", x.town(2) >= 0 ? NONE : STATE, want == NONE ? NONE : STATE);
    }

    private static void promise10() {
        faultIs("", NONE);
        faultIs("   ", NONE);
        faultIs("b20", NONE);
        faultIs("  b20m00   f99w01w10w12  ", NONE);
        faultIs("b20 x10", 4);
        faultIs("B20", 0);
        faultIs("20", 0);
        faultIs("b", 1);
        faultIs("b2", 2);
        faultIs("b 20", 1);
        faultIs("b2 ", 2);
        faultIs("b2x", 2);
        faultIs("bx2", 1);
        faultIs("b200", 3);
        faultIs("b:0", 1);
        faultIs("b/0", 1);
        faultIs("w00", 1);
        faultIs("w", 1);
        faultIs("b20 w01", 6);
        faultIs("b20 w0", 6);
        faultIs("b20 w00", 6);
        faultIs("b20 m10 w02", 10);
        faultIs("b20 m10 w20", 9);
        faultIs("b20 m10 w0 1", 10);
        faultIs("b20 m10 w01 f10", 12);
        faultIs("b20 m10 w01 x", 12);
        faultIs("b00b01b02b03b04b05b06", NONE);
        faultIs("b00b01b02b03b04b05b06b07", 21);
        faultIs("b00b01b02b03b04b05b06x", 21);
        String twelve = "b00b01" + "w01".repeat(12);
        faultIs(twelve, NONE);
        faultIs(twelve + "w01", 42);
        faultIs(twelve + " w", 43);
        faultIs(twelve + "b", 42);
        DearLetters x = new DearLetters();
        x.text(0, 3);
        x.put(0, 1, 'b' + 128);
        Due.is("fault of a byte below 0", x.fault(0), 1);
        Due.refused("fault of -1", x, () -> x.fault(-1), BAD);
        Due.refused("fault of 4", x, () -> x.fault(4), BAD);
        Due.finding("fault of none", x, () -> x.fault(1), Due.NOTHING);
    }

    private static void promise11() {
        DearLetters x = Due.town(Due.TOWN);
        x.send(0, 1, 50, 0);
        x.sell(0, 1);
        x.days(3);
        x.snow(2, 1);
        x.purse(0, 77);
        x.keep(0);
        x.keep(1);
        x.keep(2);
        Due.write(x, 1, "m05 b06 w01 w10");
        Due.is("town anew", x.town(1), 2);
        int[] counts = {2, 2, 0, 0, 0, 0, 0, 2, 0};
        for (int what = 0; what < counts.length; what++) {
            Due.is("town anew: count " + what, x.count(what), counts[what]);
        }
        Due.told("town anew: purse", x, x.bearer(0, 1), 1, 5);
        Due.told("town anew: kind", x, x.bearer(0, 0), 1, 1);
        Due.is("town anew: gain", x.gain(0), 1);
        Due.is("town anew: no gain", x.asked(), 0);
        Due.finding("kept town 0 is gone", x, () -> x.on(0), Due.NOTHING);
        Due.finding("kept town 1 is gone", x, () -> x.on(1), Due.NOTHING);
        Due.finding("kept town 2 is gone", x, () -> x.on(2), Due.NOTHING);
        Due.write(x, 1, "m05 b06 w0");
        Due.refused("town of a fault", x, () -> x.town(1), STATE);
        Due.is("a town of a fault changes none", x.count(0), 2);
        Due.refused("town of -1", x, () -> x.town(-1), BAD);
        Due.refused("town of 4", x, () -> x.town(4), BAD);
        Due.finding("town of none", x, () -> x.town(3), Due.NOTHING);
        x.text(1, 0);
        Due.is("town of nobody", x.town(1), 0);
        Due.is("nobody is there", x.count(0), 0);
    }

    private static void promise12() {
        DearLetters x = Due.town("b20 u09 b01 r02 w01 w10 w02");
        x.send(0, 2, 9, 0);
        x.send(0, 1, 9, 0);
        x.send(1, 0, 9, 0);
        Due.told("kind", x, x.bearer(1, 0), 1, 4);
        Due.told("purse", x, x.bearer(1, 1), 1, 9);
        Due.told("beside, each once", x, x.bearer(0, 2), 1, 2);
        Due.told("beside none", x, x.bearer(3, 2), 1, 0);
        Due.told("letters", x, x.bearer(0, 3), 1, 2);
        x.sell(1, 1);
        Due.told("letters less the sold one", x, x.bearer(0, 3), 1, 1);
        Due.told("letters less the read one", x, x.bearer(1, 3), 1, 1);
        Due.told("purse that was paid", x, x.bearer(0, 1), 1, 21);
        x.snow(0, 1);
        Due.told("beside by the other path", x, x.bearer(0, 2), 1, 2);
        x.snow(1, 1);
        Due.told("beside but for snow", x, x.bearer(0, 2), 1, 1);
        Due.refused("bearer -1", x, () -> x.bearer(-1, 0), BAD);
        Due.refused("bearer 4", x, () -> x.bearer(4, 0), BAD);
        Due.refused("what -1", x, () -> x.bearer(0, -1), BAD);
        Due.refused("what 4", x, () -> x.bearer(0, 4), BAD);
    }

    private static void promise13() {
        DearLetters x = Due.town("b50 m50 f50 r50 u50 s50 w05 w25 w24 w35 w52");
        x.send(0, 3, 50, 0);
        x.send(4, 3, 50, 0);
        x.send(5, 1, 9, 0);
        Due.is("to the saint", x.sell(0, 5), 1);
        Due.is("to the friend", x.sell(1, 2), 6);
        x.days(1);
        Due.is("from friend to saint", x.sell(1, 5), 6);
        // A row a BEARER, a column a KIND from 1 on; NONE where that one is not of that KIND.
        int[][] wants = {{NONE, NONE, NONE, NONE, NONE}, {2, NONE, NONE, NONE, NONE}, {NONE, 1, NONE, NONE, NONE},
            {NONE, NONE, 2, NONE, NONE}, {5, NONE, NONE, 26, NONE}, {NONE, 1, NONE, NONE, 7}};
        for (int k = 0; k < 6; k++) {
            for (int kind = 1; kind <= 5; kind++) {
                int bearer = k;
                int of = kind;
                if (wants[k][kind - 1] != NONE) {
                    Due.is("mark " + k + " as " + kind, x.mark(k, kind), wants[k][kind - 1]);
                } else {
                    Due.finding("mark " + k + " as " + kind, x, () -> x.mark(bearer, of), Due.UNLIKE);
                }
            }
            int bearer = k;
            Due.refused("mark as 0", x, () -> x.mark(bearer, 0), BAD);
        }
        x.days(1);
        Due.is("read", x.sell(0, 3), 1000);
        Due.is("reader, one read", x.mark(3, 3), 1);
        Due.is("saint, one sold", x.mark(5, 5), 6);
        x.send(0, 5, 50, 0);
        Due.is("read by the saint", x.sell(3, 5), 1001);
        Due.is("saint, one read", x.mark(5, 5), 6);
        DearLetters friends = Due.town("s00 f00 w01");
        Due.is("friend 0 beside 1", friends.mark(1, 2), 1);
        Due.is("friend 1 beside 0", friends.mark(0, 2), 1);
        x.snow(1, 1);
        x.snow(4, 1);
        Due.is("no friend beside through snow", x.mark(5, 2), 0);
        Due.refused("mark -1", x, () -> x.mark(-1, 1), BAD);
        Due.refused("mark 6", x, () -> x.mark(6, 1), BAD);
        Due.refused("mark as -1", x, () -> x.mark(1, -1), BAD);
        Due.refused("mark as 6", x, () -> x.mark(1, 6), BAD);
    }

    private static void promise14() {
        DearLetters x = Due.town("b20 b30");
        Due.is("purse", x.purse(1, 999), 30);
        Due.is("purse again", x.purse(1, 0), 999);
        Due.is("and empty", x.purse(1, 5), 0);
        Due.told("the other", x, x.bearer(0, 1), 1, 20);
        Due.refused("purse of -1", x, () -> x.purse(-1, 1), BAD);
        Due.refused("purse of 2", x, () -> x.purse(2, 1), BAD);
        Due.refused("purse with -1", x, () -> x.purse(0, -1), BAD);
        Due.refused("purse with 1000", x, () -> x.purse(0, 1000), BAD);
    }

    private static void promise15() {
        DearLetters x = Due.town("b20 b30 w01 w10");
        Due.is("snow", x.snow(1, 1), 0);
        Due.is("snow again", x.snow(1, 1), 1);
        Due.is("one with snow", x.count(5), 1);
        Due.is("beside still", x.beside(0), 2);
        Due.is("snow on both", x.snow(0, 1), 0);
        Due.is("beside no more", x.beside(0), 0);
        Due.is("snow melts", x.snow(1, 0), 1);
        Due.is("no snow again", x.snow(1, 0), 0);
        Due.is("beside again", x.beside(1), 1);
        Due.refused("snow on -1", x, () -> x.snow(-1, 1), BAD);
        Due.refused("snow on 2", x, () -> x.snow(2, 1), BAD);
        Due.refused("snow of 2", x, () -> x.snow(0, 2), BAD);
        Due.refused("snow of -1", x, () -> x.snow(0, -1), BAD);
    }

    private static void promise16() {
        DearLetters x = Due.town("b20 m15 f05 r30 u09 s12");
        int[] atNone = {1, 3, 0, 1, 6, 0};
        int[] atMost = {1000, 1002, 999, 1000, 2004, 0};
        for (int k = 0; k < 6; k++) {
            Due.is("asks of " + k, x.asks(k, 0), atNone[k]);
            Due.is("asks most of " + k, x.asks(k, 999), atMost[k]);
        }
        Due.refused("asks of -1", x, () -> x.asks(-1, 1), BAD);
        Due.refused("asks of 6", x, () -> x.asks(6, 1), BAD);
        Due.refused("asks for -1", x, () -> x.asks(0, -1), BAD);
        Due.refused("asks for 1000", x, () -> x.asks(0, 1000), BAD);
    }

    private static void promise17() {
        DearLetters x = Due.town("b20 b30 b10 b10 w01 w20");
        Due.is("beside 0", x.beside(0), 6);
        Due.is("beside 1", x.beside(1), 1);
        Due.is("beside 2", x.beside(2), 1);
        Due.is("beside 3", x.beside(3), 0);
        Due.refused("beside -1", x, () -> x.beside(-1), BAD);
        Due.refused("beside 4", x, () -> x.beside(4), BAD);
    }
}
