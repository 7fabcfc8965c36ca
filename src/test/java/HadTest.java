/** Promises 40 to 42: who had it, from prices. */
public final class HadTest {
    private static final int BAD = DearLetters.BAD, NONE = DearLetters.NONE;

    public static void main(String[] args) {
        promise40();
        promise41();
        promise42();
        readers();
        refusals();
        Due.end("HadTest");
    }

    private static void promise40() {
        DearLetters x = Due.town("b00 b00 m00 b00 w01 w02 w13 w23 w12");
        Due.fill(x, 0);
        Due.told("no sales, who sent it", x, x.had(0, 0), 1, 1);
        Due.fill(x, 0, 1);
        Due.told("one sale, purses aside", x, x.had(0, 0), 2, 2 + 4);
        Due.fill(x, 0, 1, 2);
        Due.told("by 1, not back", x, x.had(0, 0), 2, 4 + 8);
        Due.fill(x, 0, 1, 4);
        Due.told("by 2", x, x.had(0, 0), 2, 2 + 8);
        Due.fill(x, 0, 1, 2, 5);
        Due.told("by 1, 2", x, x.had(0, 0), 1, 8);
        Due.fill(x, 0, 2);
        Due.told("no such price", x, x.had(0, 0), 0, 0);
        Due.fill(x, 0, 1, 2, 5, 6);
        Due.told("too many sales", x, x.had(0, 0), 0, 0);
        Due.fill(x, 0, 1, 2);
        x.snow(2, 1);
        Due.told("snow", x, x.had(0, 0), 1, 4);
        DearLetters line = Due.town("b00 b00 b00 b00 b00 b00 b00 w01 w12 w23 w34 w45 w56 w01");
        Due.fill(line, 0, 1, 2, 3, 4, 5, 6);
        Due.told("six sales, each row once", line, line.had(0, 0), 1, 64);
    }

    private static void promise41() {
        DearLetters x = Due.town("b00 b00 m00 b00 w01 w02 w13 w23 w12");
        Due.fill(x, 0);
        Due.is("no sales", x.sure(3, 0), 8);
        Due.fill(x, 0, 1);
        Due.is("one sale", x.sure(0, 0), 1);
        Due.fill(x, 0, 1, 2);
        Due.is("by 1", x.sure(0, 0), 3);
        Due.fill(x, 0, 1, 2, 5);
        Due.is("all", x.sure(0, 0), 15);
        Due.fill(x, 0, 3);
        Due.is("none", x.sure(0, 0), 0);
    }

    private static void promise42() {
        DearLetters x = Due.town("b00 b00 m00 b00 w01 w02 w13 w23 w12");
        Due.fill(x, 0, 1);
        Due.is("first", x.first(0, 0, 1), 2);
        Due.rowIs("first", x, 1, 0, 1);
        Due.fill(x, 0, 1, 4);
        Due.is("first by 2", x.first(0, 0, 1), 3);
        Due.rowIs("first by 2", x, 1, 0, 2, 1);
        Due.fill(x, 0);
        Due.is("first of no sales", x.first(2, 0, 5), 1);
        Due.rowIs("first of no sales", x, 5, 2);
        Due.fill(x, 0, 9);
        Due.refused("none", x, () -> x.first(0, 0, 1), NONE);
        Due.fill(x, 0, 1, 2);
        Due.is("over itself", x.first(0, 0, 0), 3);
        Due.rowIs("over itself", x, 0, 0, 1, 2);
        Due.refused("first to -1", x, () -> x.first(0, 0, -1), BAD);
        Due.refused("first to 6", x, () -> x.first(0, 0, 6), BAD);
    }

    private static void readers() {
        DearLetters x = Due.town("b00 r00 b00 w01 w12 w02");
        Due.fill(x, 0, 1);
        Due.told("a reader is the last", x, x.had(0, 0), 2, 2 + 4);
        Due.fill(x, 0, 1, 2);
        Due.told("but none between", x, x.had(0, 0), 1, 2);
        Due.fill(x, 0);
        Due.told("a reader who sent it is the last one", x, x.had(1, 0), 1, 2);
        Due.fill(x, 0, 1);
        Due.told("and not the last one, if it was sold", x, x.had(1, 0), 0, 0);
        Due.is("so none is sure", x.sure(1, 0), 0);
        Due.is("and none is first", x.first(1, 0, 2), NONE);
    }

    private static void refusals() {
        DearLetters x = Due.town("b00 b00 w01");
        x.row(0, 7);
        Due.refused("had by -1", x, () -> x.had(-1, 0), BAD);
        Due.refused("had by 2", x, () -> x.had(2, 0), BAD);
        Due.refused("had from -1", x, () -> x.had(0, -1), BAD);
        Due.refused("had from 6", x, () -> x.had(0, 6), BAD);
        Due.finding("had from none", x, () -> x.had(0, 1), Due.NOTHING);
        Due.finding("had from seven", x, () -> x.had(0, 0), Due.SIZE);
        Due.refused("sure of 2", x, () -> x.sure(2, 0), BAD);
        Due.refused("sure from 6", x, () -> x.sure(0, 6), BAD);
        Due.finding("sure from none", x, () -> x.sure(0, 1), Due.NOTHING);
        Due.finding("sure from seven", x, () -> x.sure(0, 0), Due.SIZE);
        Due.refused("first of 2", x, () -> x.first(2, 0, 1), BAD);
        Due.refused("first from 6", x, () -> x.first(0, 6, 1), BAD);
        Due.refused("BAD ahead of NOTHING", x, () -> x.first(0, 1, 6), BAD);
        Due.finding("first from none", x, () -> x.first(0, 1, 2), Due.NOTHING);
        Due.finding("first from seven", x, () -> x.first(0, 0, 1), Due.SIZE);
    }
}
