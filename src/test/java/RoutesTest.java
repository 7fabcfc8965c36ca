import java.util.function.IntUnaryOperator;

/** Promises 27 to 34: ROUTES of a LETTER. */
public final class RoutesTest {
    private static final int BAD = DearLetters.BAD, NONE = DearLetters.NONE, STATE = DearLetters.STATE;
    /** From 0 to 3 by 1, by 2, by both in either order. */
    private static final String SQUARE = "b10 b10 b10 b10 w01 w13 w02 w23 w12";

    public static void main(String[] args) {
        promise27();
        promise28();
        promise29();
        promise30();
        promise31();
        promise32();
        promise33();
        promise34();
        refusals();
        Due.end("RoutesTest");
    }

    private static void promise27() {
        DearLetters x = Due.town(SQUARE);
        x.send(0, 3, 0, 9);
        Due.is("cheapest, whatever its worth, the first", x.cheapest(0, 4), 2);
        Due.rowIs("cheapest", x, 4, 0, 1, 3);
        x.purse(1, 0);
        Due.fill(x, 4, 7, 7, 7, 7, 7, 7, 7, 7);
        Due.is("cheapest, 1 has none", x.cheapest(0, 4), 2);
        Due.rowIs("cheapest anew", x, 4, 0, 2, 3);
        x.purse(3, 1);
        Due.refused("none", x, () -> x.cheapest(0, 4), NONE);
        x.purse(3, 2);
        x.snow(2, 1);
        Due.refused("none through snow", x, () -> x.cheapest(0, 4), NONE);
        Due.refused("row -1", x, () -> x.cheapest(0, -1), BAD);
        Due.refused("row 6", x, () -> x.cheapest(0, 6), BAD);

        DearLetters f = Due.town("f10 f10 f10 b10 w01 w12 w23 w13");
        f.send(0, 3, 0, 0);
        Due.is("alike, of fewest sales", f.cheapest(0, 0), 0);
        Due.rowIs("alike, of fewest sales", f, 0, 0, 1, 3);

        DearLetters s = Due.town("b10 u10 s10 r10 w01 w13 w02 w12 w23");
        s.send(0, 3, 0, 0);
        Due.is("by a saint", s.cheapest(0, 0), 0);
        Due.rowIs("by a saint", s, 0, 0, 2, 3);
        s.sell(0, 1);
        s.purse(0, 99);
        s.purse(2, 7);
        s.purse(3, 8);
        Due.is("from who has it by what that one paid", s.cheapest(0, 0), 8);
        Due.rowIs("from who has it", s, 0, 1, 3);

        DearLetters r = Due.town("r10 r10 b10 w01 w12 w02");
        r.send(0, 2, 0, 0);
        Due.is("a reader may send, but not bear", r.cheapest(0, 0), 1);
        r.snow(2, 1);
        Due.refused("a reader between", r, () -> r.cheapest(0, 0), NONE);
    }

    private static void promise28() {
        DearLetters x = Due.town("b10 m10 b10 b10 f10 w01 w13 w02 w23 w04 w41");
        x.send(0, 3, 4, 0);
        Due.told("soonest of the least price", x, x.soonest(0, 3), 2, 2);
        Due.rowIs("soonest", x, 3, 0, 2, 3);
        x.snow(2, 1);
        Due.told("soonest by the miser", x, x.soonest(0, 3), 2, 4);
        Due.rowIs("soonest", x, 3, 0, 1, 3);
        x.purse(3, 3);
        Due.refused("none by purses", x, () -> x.soonest(0, 3), NONE);
        x.purse(3, 10);
        x.send(0, 3, 5, 1);
        Due.told("worth as much on its last day", x, x.soonest(1, 3), 2, 4);
        x.days(1);
        Due.refused("none by worth", x, () -> x.soonest(1, 3), NONE);
        x.send(0, 3, 5, 1);
        x.sell(2, 4);
        Due.is("sold today, so from tomorrow on", x.soonest(2, 3), NONE);
        x.send(0, 3, 6, 1);
        x.sell(3, 4);
        Due.told("worth one more", x, x.soonest(3, 3), 2, 4);
        Due.rowIs("from who has it", x, 3, 4, 1, 3);
        Due.refused("row -1", x, () -> x.soonest(0, -1), BAD);
        Due.refused("row 6", x, () -> x.soonest(0, 6), BAD);

        DearLetters alike = Due.town(SQUARE);
        alike.send(0, 3, 9, 0);
        Due.told("alike, the first", alike, alike.soonest(0, 3), 2, 2);
        Due.rowIs("alike, the first", alike, 3, 0, 1, 3);
    }

    private static void promise29() {
        DearLetters x = Due.town(SQUARE);
        x.send(0, 3, 3, 0);
        Due.told("all come", x, x.comes(0), 4, 4);
        x.send(0, 3, 2, 0);
        Due.told("two are too dear", x, x.comes(1), 2, 4);
        x.send(0, 3, 5, 2);
        Due.told("two fall too far", x, x.comes(2), 2, 4);
        x.purse(3, 2);
        Due.told("a purse for two", x, x.comes(0), 2, 2);
        x.snow(1, 1);
        Due.told("one way", x, x.comes(0), 1, 1);
        x.purse(2, 0);
        Due.told("no way", x, x.comes(0), 0, 0);
        DearLetters twice = Due.town("b10 b10 w01 w01");
        twice.send(0, 1, 9, 0);
        Due.told("two paths, one route", twice, twice.comes(0), 1, 1);
        DearLetters zero = Due.town("s10 b00 w01");
        zero.send(0, 1, 0, 9);
        Due.told("for nothing, worth nothing", zero, zero.comes(0), 1, 1);
    }

    private static void promise30() {
        DearLetters x = Due.town(SQUARE);
        x.send(0, 3, 9, 0);
        Due.is("none bars", x.bars(0), 0);
        x.snow(1, 1);
        Due.is("2 bars", x.bars(0), 4);
        x.snow(2, 1);
        Due.is("1 and 2 bar", x.bars(0), 6);
        x.snow(3, 1);
        Due.is("0 without any", x.bars(0), 0);
        DearLetters y = Due.town("b10 b10 b10 b10 w01 w13 w23 w12");
        y.send(0, 3, 2, 0);
        Due.is("only routes by which it comes", y.bars(0), 2);
        DearLetters z = Due.town("b10 b10 w01");
        z.send(0, 1, 2, 0);
        Due.is("both ends aside", z.bars(0), 0);
    }

    private static void promise31() {
        DearLetters x = Due.town(SQUARE);
        x.send(0, 3, 3, 0);
        Due.is("it comes", x.why(0), 0);
        x.days(1);
        x.send(0, 3, 1, 0);
        Due.is("worth", x.why(1), 3);
        x.purse(3, 1);
        Due.is("purses, ahead of worth", x.why(1), 2);
        x.snow(1, 1);
        x.snow(3, 1);
        Due.is("no row, ahead of purses", x.why(1), 1);
        DearLetters r = Due.town("b10 r10 b10 w01 w12");
        r.send(0, 2, 9, 0);
        Due.is("a reader between", r.why(0), 1);
        r.send(0, 1, 9, 0);
        Due.is("a reader at last", r.why(1), 0);
        r.send(1, 2, 9, 0);
        Due.is("a reader at first", r.why(2), 0);
        DearLetters e = Due.town("b10 b10 b10 w01 w12");
        e.purse(1, 0);
        e.send(0, 2, 9, 0);
        Due.is("purses between", e.why(0), 2);
    }

    private static void promise32() {
        DearLetters x = Due.town(SQUARE);
        x.send(0, 3, 0, 0);
        Due.is("needs its price", x.needs(0), 2);
        x.send(0, 3, 0, 9);
        Due.is("and its fall", x.needs(1), 2 + 9);
        x.sell(1, 1);
        Due.is("sold today, from tomorrow on", x.needs(1), 2 + 9);
        x.days(1);
        Due.is("the next day", x.needs(1), 2);
        x.purse(3, 0);
        Due.refused("none", x, () -> x.needs(0), NONE);
        DearLetters s = Due.town("b10 s10 b10 w01 w12");
        s.send(0, 2, 0, 9);
        Due.is("for nothing, nothing", s.needs(0), 0);
        DearLetters most = letterFor994(5);
        Due.is("994 and 5 are 999", most.needs(0), 999);
        DearLetters more = letterFor994(6);
        Due.refused("994 and 6 are above 999", more, () -> more.needs(0), NONE);
        more.days(1);
        Due.is("994 are not", more.needs(0), 994);
    }

    /** A letter that went to and fro till the usurer got it for 494, and asks 994, from tomorrow on. */
    private static DearLetters letterFor994(int fall) {
        DearLetters x = Due.town("u99 b99 m99 u99 b99 w01 w02 w03 w04");
        x.send(0, 4, 0, fall);
        int[] buyers = {1, 0, 2, 0, 2, 0, 2, 0, 3, 0};
        int[] prices = {6, 7, 20, 23, 52, 55, 116, 119, 244, 494};
        for (int i = 0; i < buyers.length; i++) {
            x.days(1);
            for (int k = 0; k < 5; k++) {
                x.purse(k, 999);
            }
            Due.is("sale " + i, x.sell(0, buyers[i]), prices[i]);
        }
        Due.told("there is a route", x, x.comes(0), 0, 1);
        return x;
    }

    private static void promise33() {
        DearLetters x = Due.town("b10 b00 b10 w01 w12");
        x.send(0, 2, 0, 0);
        Due.told("lend to 1", x, x.lend(0), 1, 2);
        Due.told("the purse is as it was", x, x.bearer(1, 1), 1, 0);
        x.purse(2, 1);
        Due.refused("two are short", x, () -> x.lend(0), NONE);
        x.purse(1, 1);
        Due.told("lend to whom it is", x, x.lend(0), 2, 2);
        x.snow(0, 1);
        Due.refused("snow", x, () -> x.lend(0), NONE);
        DearLetters y = Due.town("b10 b10 w01");
        y.send(0, 1, 0, 0);
        Due.told("not to who has it", y, y.lend(0), 1, 1);
        DearLetters z = Due.town("b10 b10 s00 b10 w01 w13 w02 w23");
        z.send(0, 3, 0, 0);
        Due.told("makes it cheaper", z, z.lend(0), 2, 0);
        DearLetters back = Due.town("b00 b10 b10 w01 w02");
        back.send(1, 2, 0, 0);
        Due.told("lend to 0", back, back.lend(0), 0, 2);
        DearLetters r = Due.town("r10 b10 b10 b10 w01 w12 w23");
        r.send(1, 3, 0, 0);
        Due.told("a reader is never between", r, r.lend(0), 2, 2);
    }

    private static void promise34() {
        DearLetters x = Due.town(SQUARE);
        x.send(0, 3, 9, 0);
        Due.told("two paths, the least", x, x.block(0), 2, 1 + 4);
        x.send(0, 3, 2, 0);
        Due.told("only ways by which it comes", x, x.block(1), 2, 1 + 4);
        x.snow(2, 1);
        Due.told("one path", x, x.block(0), 1, 1);
        Due.is("snow is as it was", x.count(5), 1);
        x.snow(0, 1);
        Due.told("it does not", x, x.block(0), 0, 0);
        DearLetters twice = Due.town("b10 b10 w01 w01 w10");
        twice.send(0, 1, 9, 0);
        Due.told("all three", twice, twice.block(0), 3, 7);
        twice.snow(1, 1);
        Due.told("both others", twice, twice.block(0), 2, 5);
        DearLetters falls = Due.town("b10 b10 b10 b10 w01 w12 w23 w03");
        falls.send(0, 3, 6, 2);
        Due.told("the long way falls too far", falls, falls.block(0), 1, 8);
        falls.send(0, 3, 7, 2);
        Due.told("the long way is just worth it", falls, falls.block(1), 2, 1 + 8);
        falls.sell(1, 1);
        Due.told("sold today, from tomorrow on", falls, falls.block(1), 2, 1 + 2);
        DearLetters late = Due.town("b10 b10 b10 w12 w01");
        late.send(0, 2, 9, 0);
        Due.told("the least of one", late, late.block(0), 1, 1);
        DearLetters most = Due.town("b10 b10" + " w01".repeat(12));
        most.send(0, 1, 9, 0);
        Due.told("all twelve", most, most.block(0), 12, 4095);
    }

    private static void refusals() {
        DearLetters x = Due.town(SQUARE);
        x.send(0, 1, 9, 0);
        x.sell(0, 1);
        IntUnaryOperator[] calls = {k -> x.cheapest(k, 0), k -> x.soonest(k, 0), x::comes, x::bars, x::why, x::needs,
            x::lend, x::block};
        for (int i = 0; i < calls.length; i++) {
            IntUnaryOperator call = calls[i];
            String what = "call " + i + " of routes";
            Due.refused(what + ", -1", x, () -> call.applyAsInt(-1), BAD);
            Due.finding(what + ", beyond", x, () -> call.applyAsInt(1), Due.BEYOND);
            Due.finding(what + ", far beyond", x, () -> call.applyAsInt(Integer.MAX_VALUE), Due.BEYOND);
            Due.refused(what + ", read", x, () -> call.applyAsInt(0), STATE);
        }
        Due.refused("BAD ahead of BEYOND", x, () -> x.cheapest(7, 6), BAD);
        Due.refused("BAD ahead of STATE", x, () -> x.soonest(0, -1), BAD);
    }
}
