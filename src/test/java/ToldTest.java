/** Promises 44 to 50: what is told. */
public final class ToldTest {
    private static final int BAD = DearLetters.BAD;

    public static void main(String[] args) {
        promise44();
        promises45And46();
        promise47();
        promises48And49();
        promise50();
        Due.end("ToldTest");
    }

    private static void promise44() {
        DearLetters x = new DearLetters();
        Due.is("asked before", x.asked(), 0);
        Due.write(x, 0, "b10 b10 b07 w01 w12");
        x.town(0);
        x.send(0, 2, 50, 0);
        Due.fill(x, 0, 5, 1);
        Due.told("lay", x, x.lay(0, 0, 8), 1, 5);
        Due.told("at", x, x.at(0, 0), 1, 8);
        Due.told("mean", x, x.mean(0), 1, 4);
        Due.told("bearer", x, x.bearer(2, 1), 1, 7);
        Due.told("where", x, x.where(0), 0, 0);
        Due.told("letter", x, x.letter(0, 2), 1, 50);
        Due.told("soonest", x, x.soonest(0, 1), 2, 2);
        Due.told("comes", x, x.comes(0), 1, 1);
        Due.told("lend", x, x.lend(0), 1, 2);
        Due.told("block", x, x.block(0), 1, 1);
        Due.told("bundle", x, x.bundle(2), 0, 0);
        Due.told("post", x, x.post(99), 0, 0);
        x.sell(0, 1);
        Due.told("gain", x, x.gain(1), 1, -1);
        Due.fill(x, 0, 1);
        Due.told("had", x, x.had(1, 0), 2, 5);
        long digest = x.digest();
        x.cheapest(0, 1);
        x.worth(0, 0, 0);
        x.bars(0);
        x.why(0);
        x.needs(0);
        x.can(0);
        x.beside(0);
        x.mark(0, 1);
        x.fake(0, 1, 9);
        x.sure(1, 0);
        x.first(1, 0, 1);
        x.purse(0, 11);
        x.snow(1, 1);
        x.keep(0);
        x.on(0);
        Due.is("others leave it", x.asked(), 5);
        Due.is("NONE leaves it", x.soonest(0, 1), DearLetters.NONE);
        Due.is("NONE left it", x.asked(), 5);
        Due.is("a refusal leaves it", x.where(3), DearLetters.FINDING);
        Due.is("a refusal left it", x.asked(), 5);
        Due.is("town leaves it", x.town(0), 3);
        Due.is("town left it", x.asked(), 5);
        Due.is("all that did something", digest == x.digest() ? 1 : 0, 0);
    }

    private static void promises45And46() {
        DearLetters x = Due.town("b20 b30 b10");
        Due.is("upper", x.upper(), 1);
        Due.is("lower", x.lower(), 2);
        x.purse(1, 7);
        Due.is("upper of 20 in 37", x.upper(), 20);
        Due.is("lower of 20 in 37", x.lower(), 37);
        x.purse(0, 0);
        x.purse(2, 0);
        Due.is("upper of all", x.upper(), 1);
        Due.is("lower of all", x.lower(), 1);
        x.purse(1, 0);
        Due.is("upper of none", x.upper(), 0);
        Due.is("lower of none", x.lower(), 1);
    }

    private static void promise47() {
        DearLetters x = Due.town("b20 b30 b10 w01 w12 w02 w12");
        x.send(0, 1, 9, 0);
        x.send(0, 2, 9, 0);
        x.send(0, 2, 9, 0);
        x.sell(0, 1);
        x.sell(1, 1);
        x.days(7);
        x.snow(0, 1);
        x.snow(3, 1);
        x.snow(2, 1);
        x.row(5, 0);
        x.row(2, 3);
        x.text(3, 0);
        x.keep(0);
        x.keep(2);
        int[] wants = {3, 4, 7, 3, 2, 3, 2, 2, 2};
        for (int what = 0; what < wants.length; what++) {
            Due.is("count " + what, x.count(what), wants[what]);
        }
        Due.refused("count -1", x, () -> x.count(-1), BAD);
        Due.refused("count 9", x, () -> x.count(9), BAD);
    }

    private static void promises48And49() {
        DearLetters x = Due.town("b20");
        Due.is("no finding", x.finding(), 0);
        x.tear(0);
        Due.is("NOTHING", x.finding(), 1);
        x.where(0);
        Due.is("BEYOND", x.finding(), 2);
        x.mark(0, 1);
        Due.is("UNLIKE", x.finding(), 3);
        x.row(0, 0);
        x.mean(0);
        Due.is("NOUGHT", x.finding(), 4);
        x.row(0, -1);
        Due.is("SIZE", x.finding(), 5);
        x.where(0);
        x.where(1);
        Due.is("BEYOND again", x.finding(), 2);
        x.where(-1);
        x.row(0, 1);
        Due.is("BAD and what is answered leave it", x.finding(), 2);
        int[] wants = {1, 3, 1, 1, 1};
        for (int f = 1; f <= 5; f++) {
            Due.is("findings " + f, x.findings(f), wants[f - 1]);
        }
        Due.refused("findings 0", x, () -> x.findings(0), BAD);
        Due.refused("findings 6", x, () -> x.findings(6), BAD);
        Due.refused("findings -1", x, () -> x.findings(-1), BAD);
    }

    private static long mix(long... values) {
        long h = 17;
        for (long v : values) {
            h = 31 * h + v;
        }
        return h;
    }

    private static void promise50() {
        DearLetters x = new DearLetters();
        Due.is("digest of a new one", x.digest(), mix(0, 0, 0, 0, 0, 0, 0, 0, 0, -1, -1, -1,
            -1, -1, -1, -1, -1, -1, -1, -1, -1, -1));
        Due.write(x, 1, "m20u30w01w10");
        x.town(1);
        x.days(1);
        x.keep(1);
        x.snow(1, 1);
        x.send(0, 1, 50, 3);
        x.send(1, 0, 60, 4);
        x.sell(0, 1);
        x.days(2);
        Due.fill(x, 3, -7, 8);
        x.row(5, 0);
        x.text(2, 2);
        x.put(2, 0, 200);
        Due.is("digest", x.digest(), mix(2, 2, 3, 2, 1, 1, 2, 2, 1,
            1, 23, 1, 0, 4, 27, 1, 1,
            0, 1, 0, 1, 0, 1,
            0, 1, 44, 1, 1, 1, 3, 1, 0, 52, 0, 0, 1, 0,
            -1, 1, -1,
            -1, -1, -1, 2, -7, 8, -1, 0,
            -1, 12, 'm', '2', '0', 'u', '3', '0', 'w', '0', '1', 'w', '1', '0', 2, -56, 32, -1));
    }
}
