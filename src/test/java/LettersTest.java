/** Promises 18 to 26: LETTERS sent, SOLD, undone, TOWNS kept. */
public final class LettersTest {
    private static final int BAD = DearLetters.BAD, FULL = DearLetters.FULL, STATE = DearLetters.STATE;

    public static void main(String[] args) {
        promise18();
        promise19();
        salesThatCannotBe();
        fortySales();
        promise20();
        promise21();
        promise22();
        promise23();
        promise24();
        undoBringsPursesBack();
        promise25();
        promise26();
        Due.end("LettersTest");
    }

    private static void promise18() {
        DearLetters x = Due.town("b20 r30 b10 w01");
        Due.is("send", x.send(0, 2, 0, 0), 0);
        Due.is("send by a reader, at most", x.send(1, 0, 99, 9), 1);
        Due.refused("send to oneself", x, () -> x.send(1, 1, 5, 0), BAD);
        Due.refused("send by -1", x, () -> x.send(-1, 1, 5, 0), BAD);
        Due.refused("send by 3", x, () -> x.send(3, 1, 5, 0), BAD);
        Due.refused("send to -1", x, () -> x.send(0, -1, 5, 0), BAD);
        Due.refused("send to 3", x, () -> x.send(0, 3, 5, 0), BAD);
        Due.refused("worth -1", x, () -> x.send(0, 1, -1, 0), BAD);
        Due.refused("worth 100", x, () -> x.send(0, 1, 100, 0), BAD);
        Due.refused("fall -1", x, () -> x.send(0, 1, 5, -1), BAD);
        Due.refused("fall 10", x, () -> x.send(0, 1, 5, 10), BAD);
        Due.is("send a third", x.send(0, 1, 1, 1), 2);
        Due.is("send a fourth", x.send(0, 1, 1, 1), 3);
        Due.refused("send a fifth", x, () -> x.send(0, 1, 1, 1), FULL);
        Due.refused("BAD ahead of FULL", x, () -> x.send(0, 0, 1, 1), BAD);
    }

    private static void promise19() {
        DearLetters x = Due.town("b20 m15 r30 b02 w01 w12 w03 w13");
        x.send(0, 2, 9, 1);
        Due.is("sell", x.sell(0, 1), 1);
        Due.told("who sold it is paid", x, x.bearer(0, 1), 1, 21);
        Due.told("who bought it pays", x, x.bearer(1, 1), 1, 14);
        Due.refused("once a day", x, () -> x.sell(0, 0), STATE);
        x.days(1);
        Due.is("sell back to who sent it", x.sell(0, 0), 4);
        x.days(1);
        Due.is("and on", x.sell(0, 1), 5);
        x.days(1);
        Due.refused("worth 6 of 8", x, () -> x.sell(0, 2), STATE);
        x.send(1, 2, 9, 1);
        Due.is("read at 3", x.sell(1, 2), 1003);
        x.days(1);
        Due.refused("read goes nowhere", x, () -> x.sell(1, 1), STATE);
        Due.refused("sell -1", x, () -> x.sell(-1, 1), BAD);
        Due.refused("sell to -1", x, () -> x.sell(0, -1), BAD);
        Due.refused("sell to 4", x, () -> x.sell(0, 4), BAD);
        Due.refused("BAD ahead of BEYOND", x, () -> x.sell(2, 4), BAD);
        Due.finding("sell none", x, () -> x.sell(2, 0), Due.BEYOND);
    }

    private static void salesThatCannotBe() {
        DearLetters x = Due.town("b20 b05 r30 b06 b00 w01 w12 w23 w02 w04 w14");
        x.send(0, 3, 50, 0);
        Due.refused("a reader buys none but one's own", x, () -> x.sell(0, 2), STATE);
        Due.refused("not beside", x, () -> x.sell(0, 3), STATE);
        Due.refused("to who has it", x, () -> x.sell(0, 0), STATE);
        Due.refused("an empty purse", x, () -> x.sell(0, 4), STATE);
        x.purse(4, 1);
        Due.is("a purse that just holds it", x.sell(0, 4), 1);
        Due.told("is empty then", x, x.bearer(4, 1), 1, 0);
        x.send(0, 1, 1, 1);
        Due.is("worth as much as it costs", x.sell(1, 1), 1001);
        x.send(0, 1, 1, 1);
        x.days(1);
        Due.refused("worth less by a day", x, () -> x.sell(2, 1), STATE);
        x.snow(4, 1);
        Due.refused("through snow", x, () -> x.sell(2, 4), STATE);
    }

    /** Two friends hand a letter to and fro for nothing, till forty sales are full. */
    private static void fortySales() {
        DearLetters x = Due.town("f00 f00 b00 w01");
        x.send(0, 2, 9, 0);
        for (int i = 0; i < 40; i++) {
            Due.is("sale " + i, x.sell(0, 1 - i % 2), 0);
            x.days(1);
        }
        Due.refused("a forty-first sale", x, () -> x.sell(0, 1), FULL);
        Due.refused("STATE ahead of FULL", x, () -> x.sell(0, 0), STATE);
        Due.finding("BEYOND ahead of FULL", x, () -> x.sell(1, 0), Due.BEYOND);
        Due.is("it can be sold all the same", x.can(0), 2);
        Due.is("undo one", x.undo(39), 1);
        Due.is("and sell again", x.sell(0, 0), 0);
        x.keep(0);
        x.on(0);
        x.days(1);
        Due.is("none to be undone, so not full", x.sell(0, 1), 0);
        Due.is("one sale", x.count(4), 1);
        Due.told("but sold so often", x, x.letter(0, 4), 1, 41);
    }

    private static void promise20() {
        DearLetters x = new DearLetters();
        Due.is("no days", x.days(0), 0);
        Due.is("days", x.days(20), 20);
        Due.is("days on", x.days(20) + x.days(20) + x.days(20), 180);
        Due.refused("days to 100", x, () -> x.days(20), FULL);
        Due.is("days to 99", x.days(19), 99);
        Due.is("none more", x.days(0), 99);
        Due.refused("one more", x, () -> x.days(1), FULL);
        Due.refused("days -1", x, () -> x.days(-1), BAD);
        Due.refused("days 21", x, () -> x.days(21), BAD);
        Due.refused("days most", x, () -> x.days(Integer.MAX_VALUE), BAD);
    }

    private static void promise21() {
        DearLetters x = Due.town("m20 b15 w01");
        x.send(0, 1, 9, 0);
        Due.told("where, sent", x, x.where(0), 0, 0);
        x.sell(0, 1);
        Due.told("where, sold", x, x.where(0), 1, 3);
        Due.refused("where -1", x, () -> x.where(-1), BAD);
        Due.finding("where 1", x, () -> x.where(1), Due.BEYOND);
    }

    private static void promise22() {
        DearLetters x = Due.town("m20 b15 b10 w01 w12");
        x.days(2);
        x.send(0, 2, 9, 2);
        int[] atFirst = {0, 2, 9, 0, 0};
        for (int what = 0; what < 5; what++) {
            Due.told("letter sent, " + what, x, x.letter(0, what), 1, atFirst[what]);
        }
        x.sell(0, 1);
        x.days(2);
        Due.is("read", x.sell(0, 2), 1004);
        int[] atLast = {0, 2, 5, 1, 2};
        for (int what = 0; what < 5; what++) {
            Due.told("letter read, " + what, x, x.letter(0, what), 1, atLast[what]);
        }
        x.days(3);
        Due.told("worth no less than 0", x, x.letter(0, 2), 1, 0);
        Due.refused("letter -1", x, () -> x.letter(-1, 0), BAD);
        Due.refused("what -1", x, () -> x.letter(0, -1), BAD);
        Due.refused("what 5", x, () -> x.letter(0, 5), BAD);
        Due.refused("BAD ahead of BEYOND", x, () -> x.letter(1, 5), BAD);
        Due.finding("letter 1", x, () -> x.letter(1, 0), Due.BEYOND);
    }

    private static void promise23() {
        DearLetters x = Due.town("b20 b05 r30 b06 b00 r09 w01 w02 w03 w04 w05");
        x.send(0, 5, 1, 1);
        Due.is("can", x.can(0), 2 + 8 + 32);
        x.days(1);
        Due.is("can, worth less", x.can(0), 2 + 8);
        x.snow(0, 1);
        Due.is("can, through snow", x.can(0), 8);
        x.sell(0, 3);
        Due.is("can, once a day", x.can(0), 0);
        x.days(1);
        Due.is("can, back", x.can(0), 1);
        x.send(0, 5, 1, 1);
        x.sell(1, 5);
        x.days(1);
        Due.is("can, read", x.can(1), 0);
        DearLetters poor = Due.town("b00 b10 w01");
        poor.send(1, 0, 9, 0);
        Due.is("can, 0 has none", poor.can(0), 0);
        Due.refused("can -1", x, () -> x.can(-1), BAD);
        Due.finding("can 2", x, () -> x.can(2), Due.BEYOND);
    }

    private static void promise24() {
        DearLetters x = Due.town("b20 m15 f05 w01 w12");
        x.send(0, 2, 50, 0);
        x.send(2, 0, 50, 0);
        x.sell(0, 1);
        x.sell(1, 1);
        x.days(1);
        Due.is("read", x.sell(0, 2), 1004);
        x.sell(1, 0);
        x.snow(0, 1);
        x.send(0, 1, 3, 0);
        Due.refused("undo -1", x, () -> x.undo(-1), BAD);
        Due.refused("undo 5", x, () -> x.undo(5), BAD);
        Due.is("undo none", x.undo(4), 0);
        Due.is("undo two", x.undo(2), 2);
        Due.told("where 0", x, x.where(0), 1, 1);
        Due.told("where 1", x, x.where(1), 1, 0);
        Due.told("read no more", x, x.letter(0, 3), 1, 0);
        Due.told("sold once", x, x.letter(0, 4), 1, 1);
        Due.is("days stay", x.count(2), 1);
        Due.is("snow stays", x.count(5), 1);
        Due.is("letters stay", x.count(3), 3);
        Due.is("it was not sold today", x.can(0), 4);
        Due.is("undo all", x.undo(0), 2);
        Due.told("where 0 at first", x, x.where(0), 0, 0);
        Due.told("where 1 at first", x, x.where(1), 2, 0);
        int[] purses = {20, 15, 5};
        for (int k = 0; k < 3; k++) {
            Due.told("purse " + k, x, x.bearer(k, 1), 1, purses[k]);
        }
        Due.is("undo none of none", x.undo(0), 0);
        Due.refused("undo one of none", x, () -> x.undo(1), BAD);
    }

    private static void undoBringsPursesBack() {
        DearLetters x = Due.town("b20 m15 f05 w01 w12");
        x.send(0, 2, 50, 0);
        x.purse(2, 70);
        x.sell(0, 1);
        x.purse(2, 80);
        x.purse(0, 1);
        x.days(1);
        x.sell(0, 2);
        x.purse(1, 999);
        Due.is("undo one", x.undo(1), 1);
        int[] aheadOfSecond = {1, 14, 80};
        for (int k = 0; k < 3; k++) {
            Due.told("purse ahead of the second, " + k, x, x.bearer(k, 1), 1, aheadOfSecond[k]);
        }
        Due.is("undo the other", x.undo(0), 1);
        int[] aheadOfFirst = {20, 15, 70};
        for (int k = 0; k < 3; k++) {
            Due.told("purse ahead of the first, " + k, x, x.bearer(k, 1), 1, aheadOfFirst[k]);
        }
        x.purse(0, 3);
        Due.is("undo none", x.undo(0), 0);
        Due.told("undo of none changes no purse", x, x.bearer(0, 1), 1, 3);
    }

    private static void promise25() {
        DearLetters x = new DearLetters();
        Due.refused("keep nobody", x, () -> x.keep(0), STATE);
        Due.refused("BAD ahead of STATE", x, () -> x.keep(3), BAD);
        Due.write(x, 0, "b20 m15 w01");
        x.town(0);
        x.send(0, 1, 20, 1);
        x.sell(0, 1);
        x.days(4);
        Due.is("keep", x.keep(2), 4);
        Due.is("one kept", x.count(8), 1);
        Due.is("sales can still be undone", x.undo(0), 1);
        x.days(1);
        Due.is("keep over it", x.keep(2), 5);
        Due.is("still one", x.count(8), 1);
        Due.is("keep another", x.keep(0), 5);
        Due.is("two kept", x.count(8), 2);
        Due.refused("keep -1", x, () -> x.keep(-1), BAD);
        Due.refused("keep 3", x, () -> x.keep(3), BAD);
    }

    private static void promise26() {
        DearLetters x = Due.town("b20 m15 b09 w01 w12");
        x.send(0, 2, 20, 1);
        x.sell(0, 1);
        x.snow(1, 1);
        x.days(1);
        x.keep(1);
        x.days(5);
        x.snow(1, 0);
        x.purse(2, 500);
        x.send(1, 0, 7, 0);
        Due.is("read", x.sell(0, 2), 1004);
        Due.is("on", x.on(1), 1);
        int[] counts = {3, 2, 1, 1, 0, 1};
        for (int what = 0; what < counts.length; what++) {
            Due.is("on: count " + what, x.count(what), counts[what]);
        }
        Due.told("on: where", x, x.where(0), 1, 1);
        Due.told("on: read", x, x.letter(0, 3), 1, 0);
        Due.told("on: sold", x, x.letter(0, 4), 1, 1);
        Due.told("on: purse 0", x, x.bearer(0, 1), 1, 21);
        Due.told("on: purse 2", x, x.bearer(2, 1), 1, 9);
        Due.refused("on: none to be undone", x, () -> x.undo(1), BAD);
        Due.told("on: no gain", x, x.gain(0), 1, 0);
        x.sell(0, 0);
        x.days(1);
        Due.is("on again", x.on(1), 1);
        Due.told("on again: where", x, x.where(0), 1, 1);
        x.sell(0, 0);
        x.keep(0);
        x.undo(0);
        x.on(0);
        Due.is("on: sold today stays so", x.can(0), 0);
        Due.finding("on none", x, () -> x.on(2), Due.NOTHING);
        Due.refused("on -1", x, () -> x.on(-1), BAD);
        Due.refused("on 3", x, () -> x.on(3), BAD);
    }
}
