import java.lang.reflect.Method;
import java.util.ArrayList;
import java.util.Arrays;
import java.util.List;
import java.util.Map;
import java.util.TreeSet;

/**
 * Of each call each number: all those that are taken, and those that are refused on each side, and by what.
 *
 * A row is a call and its numbers: the least and the greatest that is taken in a town where all is full, what is
 * answered below and above these, and the number that stands there while another one is looked at (else the least).
 */
public final class RangesTest {
    private static final String TOWN = "b50 m50 f50 r50 u50 s50 b50 w01 w12 w23 w14 w46 w25 w56 w03 w04 w05 w06 w13";
    private static final String[] CALLS = {
        "row 0..5 0..40:SIZE:BAD", "lay 0..5 0..5:BEYOND:BEYOND *", "at 0..5 0..5:BEYOND:BEYOND", "tear 0..5",
        "copy 0..5 0..6:BEYOND:BEYOND 0..5 0..6:BEYOND:BEYOND 0..6:SIZE:BEYOND", "mean 0..5",
        "text 0..3 0..80:SIZE:BAD", "put 0..3@1 0..2:BEYOND:BEYOND *", "fault 0..3", "town 0..3", "bearer 0..6 0..3",
        "mark 0..6 1..5", "purse 0..6 0..999", "snow 0..11 0..1", "asks 0..6 0..999", "beside 0..6",
        "send 0..6 0..6@1 0..99 0..9", "sell 0..3:BAD:BEYOND 0..6", "days 0..20", "where 0..3:BAD:BEYOND",
        "letter 0..3:BAD:BEYOND 0..4", "can 0..3:BAD:BEYOND", "undo 0..2", "keep 0..2", "on 0..2",
        "cheapest 0..3:BAD:BEYOND 0..5", "soonest 0..3:BAD:BEYOND 0..5", "comes 0..3:BAD:BEYOND",
        "bars 0..3:BAD:BEYOND", "why 0..3:BAD:BEYOND", "needs 0..3:BAD:BEYOND", "lend 0..3:BAD:BEYOND",
        "block 0..3:BAD:BEYOND", "worth 0..3:BAD:BEYOND 0..6 0..20", "bundle 0..6", "post 0..99",
        "fake 0..6 0..6@1 0..99", "gain 0..6", "had 0..6 0..5", "sure 0..6 0..5", "first 0..6 0..5 0..5",
        "luck 1..40 1..2147483646", "asked", "upper", "lower", "count 0..8", "finding", "findings 1..5", "digest"};
    private static final Map<String, Integer> REFUSALS = Map.of("BAD", -1, "NOTHING", 1, "BEYOND", 2, "UNLIKE", 3,
        "NOUGHT", 4, "SIZE", 5);

    private record Range(long least, long most, String below, String above, long base) {
        static Range of(String word) {
            if (word.equals("*")) {
                return new Range(Integer.MIN_VALUE, Integer.MAX_VALUE, "BAD", "BAD", 0);
            }
            String[] at = word.split("@");
            String[] parts = at[0].split(":");
            String[] ends = parts[0].split("\\.\\.");
            long least = Long.parseLong(ends[0]);
            return new Range(least, Long.parseLong(ends[1]), parts.length > 1 ? parts[1] : "BAD",
                parts.length > 1 ? parts[2] : "BAD", at.length > 1 ? Long.parseLong(at[1]) : least);
        }

        String refusalOf(long value) {
            return value < least ? below : value > most ? above : "";
        }
    }

    public static void main(String[] args) throws ReflectiveOperationException {
        Due.is("a row for each call", CALLS.length, 49);
        for (String call : CALLS) {
            String[] words = call.split(" ");
            List<Range> ranges = new ArrayList<>();
            for (int i = 1; i < words.length; i++) {
                ranges.add(Range.of(words[i]));
            }
            for (int i = 0; i < ranges.size(); i++) {
                for (int value : valuesFor(ranges.get(i))) {
                    look(words[0], ranges, i, value);
                }
            }
        }
        Due.end("RangesTest");
    }

    private static TreeSet<Integer> valuesFor(Range range) {
        TreeSet<Integer> values = new TreeSet<>();
        for (int bit = 0; bit < 32; bit++) {
            for (int off = -2; off <= 2; off++) {
                values.add((1 << bit) + off);
                values.add(-(1 << bit) + off);
                values.add((int) range.least + (1 << bit));
                values.add((int) range.most - (1 << bit));
            }
        }
        for (int off = -3; off <= 3; off++) {
            values.add((int) range.least + off);
            values.add((int) range.most + off);
        }
        return values;
    }

    /** All ROWS have six places, all TEXTS are towns, all places hold a TOWN; four LETTERS, two sales, DAY 50. */
    private static DearLetters full() {
        DearLetters x = new DearLetters();
        Due.write(x, 0, TOWN);
        Due.write(x, 1, "b10");
        Due.write(x, 2, "   ");
        Due.write(x, 3, "r01 r02");
        x.town(0);
        for (int r = 0; r < 6; r++) {
            x.row(r, 6);
            x.lay(r, 0, 1);
        }
        x.days(20);
        x.days(20);
        x.send(0, 6, 50, 1);
        x.send(6, 0, 50, 1);
        x.send(1, 3, 50, 1);
        x.send(5, 4, 50, 1);
        x.keep(0);
        x.keep(1);
        x.keep(2);
        x.sell(0, 1);
        x.sell(1, 4);
        x.days(10);
        return x;
    }

    private static void look(String name, List<Range> ranges, int which, int value)
        throws ReflectiveOperationException {
        Object[] args = new Object[ranges.size()];
        for (int i = 0; i < args.length; i++) {
            args[i] = i == which ? value : (int) ranges.get(i).base;
        }
        String refusal = ranges.get(which).refusalOf(value);
        boolean isPair = name.equals("send") || name.equals("fake");
        if (isPair && args[0].equals(args[1])) {
            refusal = "BAD";
        }
        String call = name + Arrays.toString(args);
        DearLetters x = full();
        long digest = x.digest();
        int asked = x.asked();
        long got = ((Number) method(name, args.length).invoke(x, args)).longValue();
        if (refusal.isEmpty()) {
            // A sale that can't be, a fifth LETTER or another KIND is told so, but not that there is no such number.
            boolean isTaken = got != DearLetters.BAD && (got != DearLetters.FINDING || x.finding() == Due.UNLIKE);
            Due.is(call + " is taken: " + got, isTaken ? 1 : 0, 1);
            return;
        }
        boolean isBad = refusal.equals("BAD");
        Due.is(call, got, isBad ? DearLetters.BAD : DearLetters.FINDING);
        Due.is(call + ": finding()", x.finding(), isBad ? 0 : REFUSALS.get(refusal));
        Due.is(call + ": digest()", x.digest(), digest);
        Due.is(call + ": asked()", x.asked(), asked);
    }

    private static Method method(String name, int numbers) throws ReflectiveOperationException {
        Class<?>[] types = new Class<?>[numbers];
        Arrays.fill(types, int.class);
        return DearLetters.class.getMethod(name, types);
    }
}
