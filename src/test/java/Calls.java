import java.lang.reflect.Method;
import java.lang.reflect.Modifier;
import java.util.ArrayList;
import java.util.Arrays;
import java.util.HashMap;
import java.util.List;
import java.util.Map;
import java.util.Set;

/**
 * Runs of calls on a new object, written as texts: "row 0 40 = 40", "at 0 39 = 1 asked 7", "row 0 41 = BAD",
 * "row 0 -1 = SIZE" (a FINDING by its name), "write 2 b20 w0 = 6" (a TEXT of these bytes), "days 1 3 times = 3" (the
 * answer is the last one's). MIN and MAX stand for the least and the greatest int.
 *
 * Behind each call is looked at what holds for all: what is refused, or NONE, changes nothing but finding() and
 * findings(), seen by what all later calls answer; calls that only look change nothing; asked() changes by those alone
 * that tell something by it.
 */
final class Calls {
    private static final Set<String> TELLERS = Set.of("lay", "at", "mean", "bearer", "where", "letter", "soonest",
        "comes", "lend", "block", "bundle", "post", "gain", "had");
    private static final Set<String> CHANGERS = Set.of("row", "lay", "tear", "copy", "text", "put", "town", "purse",
        "snow", "send", "sell", "days", "undo", "keep", "on", "cheapest", "soonest", "first", "luck", "write");
    private static final List<String> FINDINGS = List.of("", "NOTHING", "BEYOND", "UNLIKE", "NOUGHT", "SIZE");
    private static final Map<String, Integer> REFUSALS = Map.of("BAD", -1, "FULL", -2, "STATE", -4, "NONE", -9);
    private static final Map<String, Method> FACE = face();

    private final String about;
    private final List<String> history = new ArrayList<>();
    private final DearLetters object = new DearLetters();

    Calls(String about) {
        this.about = about;
    }

    /** A new object with a TOWN, whose TEXT is 3. */
    static Calls in(String about, String town) {
        long bearers = town.chars().filter(c -> "bmfrus".indexOf(c) >= 0).count();
        return new Calls(about + " in '" + town + "'").run("write 3 " + town + " = " + town.length(),
            "town 3 = " + bearers);
    }

    Calls run(String... lines) {
        for (String line : lines) {
            int end = line.lastIndexOf(" = ");
            line(line.substring(0, end), line.substring(end + 3).split(" "));
        }
        return this;
    }

    /** The PURSE of one is 999, whatever it was. */
    void rich(int x) {
        run("bearer " + x + " 1 = 1").run("purse " + x + " 999 = " + object.asked());
    }

    private void line(String call, String[] due) {
        boolean isFinding = FINDINGS.contains(due[0]);
        boolean isRefused = isFinding || REFUSALS.containsKey(due[0]);
        long[] before = look(object);
        int[] findings = findings(object);
        long want = isFinding ? -3 : isRefused ? REFUSALS.get(due[0]) : Long.parseLong(due[0]);
        is(call, answer(object, call), want);
        if (isFinding) {
            int which = FINDINGS.indexOf(due[0]);
            findings[which]++;
            findings[0] = which;
        }
        is(call + ": finding() and findings() " + Arrays.toString(findings(object)),
            Arrays.equals(findings, findings(object)) ? 1 : 0, 1);
        if (isRefused) {
            nothingChanged(call, before);
            return;
        }
        history.add(call);
        String name = call.split(" ")[0];
        if (due.length == 3) {
            is(call + ": asked()", object.asked(), Integer.parseInt(due[2]));
        } else if (!TELLERS.contains(name)) {
            is(call + ": asked() stays", object.asked(), before[0]);
        }
        if (!CHANGERS.contains(name)) {
            is(call + ": digest() stays", object.digest(), before[1]);
        }
    }

    private void nothingChanged(String call, long[] before) {
        is(call + ": what can be seen stays", Arrays.equals(before, look(object)) ? 1 : 0, 1);
        DearLetters with = again();
        DearLetters without = again();
        answer(with, call);
        List<Long> seen = lateLook(with);
        is(call + ": what can be seen later stays", seen.equals(lateLook(without)) ? 1 : 0, 1);
    }

    private DearLetters again() {
        DearLetters x = new DearLetters();
        history.forEach(call -> answer(x, call));
        return x;
    }

    private void is(String call, long got, long want) {
        Due.is(about + ", call " + history.size() + ": " + call, got, want);
    }

    private static long[] look(DearLetters x) {
        return new long[] {x.asked(), x.digest(), x.upper(), x.lower(), canOf(x, 0), canOf(x, 1), canOf(x, 2),
            canOf(x, 3)};
    }

    /** Looks at LETTERS that there are alone, since to look at others is a FINDING. */
    private static long canOf(DearLetters x, int k) {
        return k < x.count(3) ? x.can(k) : -1;
    }

    private static int[] findings(DearLetters x) {
        return new int[] {x.finding(), x.findings(1), x.findings(2), x.findings(3), x.findings(4), x.findings(5)};
    }

    /** What is hidden today: when a LETTER was SOLD, how it falls, which sales can be undone, what is kept. */
    private static List<Long> lateLook(DearLetters x) {
        List<Long> seen = new ArrayList<>();
        seeAll(x, seen);
        seen.add((long) x.days(1));
        seeAll(x, seen);
        for (int n = x.count(4); n > 0; n--) {
            seen.add((long) x.undo(n - 1));
            seeAll(x, seen);
        }
        for (int k = 0; k < 3; k++) {
            seen.add((long) x.on(k));
            seeAll(x, seen);
            seen.add((long) x.days(1));
            seeAll(x, seen);
        }
        return seen;
    }

    private static void seeAll(DearLetters x, List<Long> seen) {
        for (long value : look(x)) {
            seen.add(value);
        }
        for (int k = 0; k < 7; k++) {
            seen.add((long) x.beside(k));
            seen.add((long) x.gain(k));
            seen.add((long) x.asked());
        }
    }

    private static Map<String, Method> face() {
        Map<String, Method> face = new HashMap<>();
        for (Method m : DearLetters.class.getDeclaredMethods()) {
            if (Modifier.isPublic(m.getModifiers())) {
                face.put(m.getName(), m);
            }
        }
        return face;
    }

    private static long answer(DearLetters x, String call) {
        if (call.startsWith("write ")) {
            String bytes = call.substring(8);
            Due.write(x, call.charAt(6) - '0', bytes);
            return bytes.length();
        }
        String[] words = call.split(" ");
        boolean often = words[words.length - 1].equals("times");
        int times = often ? Integer.parseInt(words[words.length - 2]) : 1;
        Object[] args = new Object[words.length - (often ? 3 : 1)];
        for (int i = 0; i < args.length; i++) {
            args[i] = number(words[i + 1]);
        }
        long last = 0;
        for (int i = 0; i < times; i++) {
            last = invoke(x, words[0], args);
        }
        return last;
    }

    private static int number(String word) {
        return switch (word) {
            case "MIN" -> Integer.MIN_VALUE;
            case "MAX" -> Integer.MAX_VALUE;
            default -> Integer.parseInt(word);
        };
    }

    private static long invoke(DearLetters x, String name, Object[] args) {
        try {
            return ((Number) FACE.get(name).invoke(x, args)).longValue();
        } catch (ReflectiveOperationException wrong) {
            throw new IllegalStateException(name + Arrays.toString(args), wrong);
        }
    }
}
