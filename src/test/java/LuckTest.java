/** Promise 43: days by LOTS. */
public final class LuckTest {
    private static final int BAD = DearLetters.BAD, FULL = DearLetters.FULL, STATE = DearLetters.STATE;

    public static void main(String[] args) {
        lotsChoose();
        luckEndsAheadOfTheFortyFirst();
        wrongOnes();
        Due.end("LuckTest");
    }

    private static void lotsChoose() {
        for (int seed : new int[] {1, 2, 3, 77, 2147483646}) {
            DearLetters x = Due.town("b90 b90 b90 b90 b90 w01 w02 w03 w12 w34");
            DearLetters y = Due.town("b90 b90 b90 b90 b90 w01 w02 w03 w12 w34");
            for (DearLetters z : new DearLetters[] {x, y}) {
                z.send(0, 4, 40, 1);
                z.send(2, 3, 40, 1);
                z.sell(1, 0);
            }
            long lot = seed;
            int read = 0;
            for (int day = 0; day < 12; day++) {
                for (int k = 0; k < 2; k++) {
                    int many = Integer.bitCount(y.can(k));
                    if (many == 0) {
                        continue;
                    }
                    lot = 48271 * lot % 2147483647L;
                    int bits = y.can(k);
                    for (long i = lot % many; i > 0; i--) {
                        bits &= bits - 1;
                    }
                    read += y.sell(k, Integer.numberOfTrailingZeros(bits)) >= 1000 ? 1 : 0;
                }
                y.days(1);
            }
            Due.is("luck of " + seed, x.luck(12, seed), read);
            Due.is("luck of " + seed + " goes so", x.digest(), y.digest());
        }
    }

    private static void luckEndsAheadOfTheFortyFirst() {
        DearLetters x = Due.town("f00 f00 b00 w01");
        x.send(0, 2, 9, 0);
        Due.is("forty days, forty sales", x.luck(40, 5), 0);
        Due.is("forty sales", x.count(4), 40);
        Due.is("forty days", x.count(2), 40);
        Due.is("no forty-first", x.luck(3, 5), 0);
        Due.is("still forty", x.count(4), 40);
        Due.is("it ended on the same day", x.count(2), 40);
        x.snow(0, 1);
        Due.is("none to be sold", x.luck(3, 5), 0);
        Due.is("so days go by", x.count(2), 43);
    }

    private static void wrongOnes() {
        DearLetters nobody = new DearLetters();
        Due.refused("luck of nobody", nobody, () -> nobody.luck(1, 1), STATE);
        Due.refused("BAD ahead of STATE", nobody, () -> nobody.luck(0, 1), BAD);
        for (int i = 0; i < 4; i++) {
            nobody.days(20);
        }
        Due.refused("STATE ahead of FULL", nobody, () -> nobody.luck(40, 1), STATE);
        DearLetters x = Due.town("b10 b10 w01");
        Due.refused("luck of 0 days", x, () -> x.luck(0, 1), BAD);
        Due.refused("luck of 41 days", x, () -> x.luck(41, 1), BAD);
        Due.refused("luck of seed 0", x, () -> x.luck(1, 0), BAD);
        Due.refused("luck of seed -1", x, () -> x.luck(1, -1), BAD);
        Due.refused("luck of seed 2147483647", x, () -> x.luck(1, 2147483647), BAD);
        Due.is("without letters days go by", x.luck(40, 2147483646), 0);
        Due.is("and by", x.luck(40, 1), 0);
        Due.refused("DAY 99 would be passed", x, () -> x.luck(20, 1), FULL);
        Due.is("to DAY 99", x.luck(19, 1), 0);
        Due.is("DAY 99", x.count(2), 99);
        Due.refused("no day more", x, () -> x.luck(1, 1), FULL);
    }
}
