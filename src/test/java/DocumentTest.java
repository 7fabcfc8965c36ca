import java.io.IOException;
import java.nio.file.Files;
import java.nio.file.Path;

/**
 * The document once more, from its first line to its last: each sentence as it stands there, with calls that show it.
 * The sentences are looked up in ../shared/DOC.md in their order, and no words may stand between them but headings and
 * signatures, so that none is left out here and a document that has changed is seen.
 */
public final class DocumentTest {
    private static final Path DOCUMENT = Path.of("../shared/DOC.md");
    /** All KINDS, each with 50: a BEARER 0, a MISER 1, a FRIEND 2, a READER 3, a USURER 4, a SAINT 5. */
    private static final String KINDS = "b50 m50 f50 r50 u50 s50";
    private static final String LINE = "b09 b09 b09 w01 w12";
    /** From 0 to 3 by 1 or by 2, and between these two. */
    private static final String SQUARE = "b09 b09 b09 b09 w01 w02 w13 w23 w12";

    private static String document;
    private static int place;
    private static String sentence;

    public static void main(String[] args) throws IOException {
        document = Files.exists(DOCUMENT) ? Files.readString(DOCUMENT) : "";
        whatItIs();
        refusals();
        rowsTextsTowns();
        kinds();
        letters();
        routes();
        groups();
        promises1To9();
        promises10To17();
        promises18To22();
        promises23To26();
        promises27To34();
        promises35To39();
        promises40To43();
        promises44To50();
        notPromised();
        Due.end("DocumentTest");
    }

    /** The document's next sentence; ahead of it only headings, signatures and marks may have been passed over. */
    private static void says(String words) {
        sentence = words;
        if (document.isEmpty()) {
            return;
        }
        int found = document.indexOf(words, place);
        Due.is("the document says: " + words, found >= 0 ? 1 : 0, 1);
        if (found >= 0) {
            nothingLeftOut(document.substring(place, found));
            place = found + words.length();
        }
    }

    private static void nothingLeftOut(String between) {
        String words = between.replaceAll("(?s)```java.*?```", "").replaceAll("(?m)^#.*$", "")
            .replaceAll("`[^`\n]*\\)`:", "").replaceAll("Ahead of the calls [^:]*: ---- \\d [a-z ,]*\\.?", "")
            .replaceAll("```text|```|=+ \\d|\\s+", "");
        Due.is("left out ahead of '" + sentence + "': " + words, words.length(), 0);
    }

    private static Calls calls(String... lines) {
        return new Calls(sentence).run(lines);
    }

    private static Calls in(String town, String... lines) {
        return Calls.in(sentence, town).run(lines);
    }

    private static void whatItIs() {
        says("Round until it is paid: in the mountain post a letter costs its last bearer, who sells it at a penny more"
            + " to whoever will carry it on, and comes to its reader dear or never; bearers of kinds (misers, friends,"
            + " readers, usurers, saints) with purses, ways between them, snow, in a small language; letters sold day"
            + " by day, undone, opened; how cheaply, how soon one can come, by how many ways, who bars it, why it never"
            + " comes; what it is worth in whose hands; bundles that a purse can buy; from prices who had it, all ways"
            + " that fit; what purses, what snow it needs; a post at one price beside it: who gains; false news, how"
            + " long it earns; days by lots; towns kept, gone on from. ======== ANSWERS.");
        in(LINE, "send 0 2 9 0 = 0", "keep 0 = 0", "cheapest 0 0 = 2", "soonest 0 0 = 2 asked 2",
            "comes 0 = 1 asked 1", "bars 0 = 2", "why 0 = 0", "worth 0 0 0 = 7", "bundle 1 = 1 asked 1",
            "lend 0 = 1 asked 2", "block 0 = 1 asked 1", "post 1 = 2 asked 0", "fake 0 2 9 = 2", "sell 0 1 = 1",
            "days 1 = 1", "sell 0 2 = 1002", "undo 1 = 1", "luck 1 1 = 1", "on 0 = 0");
        says("An object is used for at most 512 calls after it has been made; what later calls answer is free.");
        calls("row 0 1 = 1", "at 0 0 510 times = 1", "asked = 0");
    }

    private static void refusals() {
        says("Refused is, the first of these that fits, in this order: BAD -1 (a number that is none, or not as told),"
            + " FULL -2, STATE -4 (not now), SPENT -6 (more than told), FINDING -3 (finding() tells which), unless a"
            + " call says so otherwise.");
        calls("row 6 -1 = BAD", "row 0 -1 = SIZE", "finding = 5", "lay 6 0 0 = BAD", "lay 0 0 0 = NOTHING",
            "finding = 1", "keep 3 = BAD", "keep 0 = STATE", "days 20 4 times = 80", "days 21 = BAD", "days 20 = FULL");
        in(LINE, "send 0 2 9 0 4 times = 3", "send 0 0 9 0 = BAD", "send 0 2 9 0 = FULL");
        says("NONE -9.");
        in("b09 b09", "fault 3 = NONE", "send 0 1 9 0 = 0", "cheapest 0 0 = NONE", "soonest 0 0 = NONE",
            "needs 0 = NONE", "lend 0 = NONE", "row 0 1 = 1", "first 0 0 1 = NONE");
        says("What is refused changes nothing but finding(), findings().");
        in(LINE, "row 0 3 = 3", "row 0 41 = BAD", "row 0 -1 = SIZE", "lay 0 3 7 = BEYOND", "copy 0 0 0 1 3 = BEYOND",
            "tear 1 = NOTHING", "mean 1 = NOTHING", "text 3 81 = BAD", "put 3 99 7 = BEYOND", "town 2 = NOTHING",
            "mark 0 1 = UNLIKE", "purse 0 1000 = BAD", "snow 0 2 = BAD", "send 0 2 100 0 = BAD", "sell 0 1 = BEYOND",
            "days 21 = BAD", "undo 1 = BAD", "keep 3 = BAD", "on 0 = NOTHING", "luck 41 1 = BAD");
        says("FINDINGS: 1 NOTHING (a ROW, a TEXT, a kept TOWN that is missing), 2 BEYOND (a place that there is not),"
            + " 3 UNLIKE (a BEARER of another KIND; a number that is none), 4 NOUGHT (shared among none; what can't"
            + " be), 5 SIZE (fewer than none; too many).");
        in(KINDS, "at 0 0 = NOTHING", "fault 0 = NOTHING", "on 0 = NOTHING", "finding = 1", "row 0 0 = 0",
            "at 0 0 = BEYOND", "put 3 80 0 = BEYOND", "where 0 = BEYOND", "finding = 2", "mark 0 3 = UNLIKE",
            "finding = 3", "mean 0 = NOUGHT", "finding = 4", "text 0 -1 = SIZE", "row 0 7 = 7", "had 0 0 = SIZE",
            "finding = 5", "findings 1 = 3", "findings 2 = 3", "findings 3 = 1", "findings 4 = 1", "findings 5 = 2");
        says("Sets (of BEARERS, of LETTERS, of PATHS) are told by bits.");
        in(SQUARE, "beside 0 = 6", "beside 3 = 6", "send 0 3 9 0 = 0", "send 1 3 9 0 = 1", "bundle 3 = 1 asked 2",
            "block 0 = 2 asked 3");
    }

    private static void rowsTextsTowns() {
        says("ROWS 0 .. 5 are rows of 0 to 40 ints, TEXTS 0 .. 3 rows of 0 to 80 bytes, or missing (at first).");
        calls("at 0 0 = NOTHING", "at 5 0 = NOTHING", "at 6 0 = BAD", "at -1 0 = BAD", "row 0 0 = 0", "row 5 40 = 40",
            "row 5 41 = BAD", "lay 5 39 MIN = 1", "lay 5 39 MAX = 1 asked -2147483648", "fault 0 = NOTHING",
            "fault 3 = NOTHING", "fault 4 = BAD", "fault -1 = BAD", "text 0 0 = 0", "text 3 80 = 80", "text 3 81 = BAD",
            "put 3 79 127 = 1032", "put 3 79 0 = 1127");
        says("A TOWN (without BEARERS at first) is a TEXT: blanks (32) ahead, between, behind as many as wanted, none"
            + " within items.");
        calls("count 0 = 0", "bearer 0 0 = BAD", "write 0    b01  m02    w01     w10   = 28", "fault 0 = NONE",
            "town 0 = 2", "count 1 = 2", "write 1 b 01 = 4", "fault 1 = 1", "write 2 b01m02w 01 = 10", "fault 2 = 7");
        says("First BEARERS 0, 1, .. (7 at most; as they come): a letter, the PURSE (two figures); then PATHS 0, 1, .."
            + " (12 at most): w (119), two unlike BEARERS, one figure each.");
        in("s01 u20 r03 f40 m05 b60 b99 w65 w54 w43 w32 w21 w10 w06 w12 w23 w34 w45 w56", "count 0 = 7", "count 1 = 12",
            "bearer 0 0 = 1 asked 5", "bearer 0 1 = 1 asked 1", "bearer 1 1 = 1 asked 20", "bearer 6 1 = 1 asked 99",
            "beside 6 = 33", "beside 0 = 66", "snow 11 1 = 0", "snow 12 1 = BAD", "put 3 28 120 = 1119",
            "fault 3 = 28");
        says("A FAULT is the first place at which it can't go on so (a letter, a figure that is none such, no BEARER,"
            + " the same one twice: its place; a BEARER behind a PATH, an eighth one, a thirteenth PATH: its letter;"
            + " the TEXT's size, if it ends within an item).");
        fault("b01 a02", 4);
        fault("b01 mx2", 5);
        fault("b01 m2x", 6);
        fault("b01 m02 w02", 10);
        fault("b01 m02 w20", 9);
        fault("b01 m02 w11", 10);
        fault("b01 m02 w01 f03", 12);
        fault("b01b01b01b01b01b01b01b01", 21);
        fault("b01b01" + "w01".repeat(13), 42);
        fault("b01 m", 5);
        fault("b01 m0", 6);
        fault("b01 m02 w", 9);
        fault("b01 m02 w0", 10);
    }

    private static void fault(String bytes, int fault) {
        calls("write 0 " + bytes + " = " + bytes.length(), "fault 0 = " + fault, "town 0 = STATE");
    }

    private static void kinds() {
        says("KINDS of BEARERS and letters: 0 BEARER (b, 98), 1 MISER (m, 109; a BEARER), 2 FRIEND (f, 102; a BEARER),"
            + " 3 READER (r, 114; a BEARER), 4 USURER (u, 117; a MISER), 5 SAINT (s, 115; a FRIEND).");
        int[] signs = {98, 109, 102, 114, 117, 115};
        String[] marks = {"UNLIKE UNLIKE UNLIKE UNLIKE UNLIKE", "2 UNLIKE UNLIKE UNLIKE UNLIKE",
            "UNLIKE 0 UNLIKE UNLIKE UNLIKE", "UNLIKE UNLIKE 0 UNLIKE UNLIKE", "5 UNLIKE UNLIKE 26 UNLIKE",
            "UNLIKE 0 UNLIKE UNLIKE 0"};
        for (int kind = 0; kind < 6; kind++) {
            Calls x = calls("text 0 3 = 3", "put 0 0 " + signs[kind] + " = 1032", "put 0 1 48 = 1032",
                "put 0 2 48 = 1032", "town 0 = 1", "bearer 0 0 = 1 asked " + kind);
            for (int other = 1; other < 6; other++) {
                x.run("mark 0 " + other + " = " + marks[kind].split(" ")[other - 1]);
            }
        }
        says("Who has a LETTER for which that one PAID p (who sends it: 0) ASKS p and 1; a MISER p and 3; a FRIEND p; a"
            + " USURER twice what a MISER ASKS; a SAINT 0.");
        in(KINDS, "asks 0 7 = 8", "asks 1 7 = 10", "asks 2 7 = 7", "asks 3 7 = 8", "asks 4 7 = 20", "asks 5 7 = 0",
            "asks 0 0 = 1", "asks 1 0 = 3", "asks 2 0 = 0", "asks 3 0 = 1", "asks 4 0 = 6", "asks 5 0 = 0");
        says("A READER buys none but what is to that one.");
        in("b50 r50 b50 w01 w12", "send 0 2 9 0 = 0", "can 0 = 0", "sell 0 1 = STATE", "send 0 1 9 0 = 1", "can 1 = 2",
            "sell 1 1 = 1001");
        says("A PATH is OPEN, unless there is SNOW on it (none at first).");
        in(LINE, "count 5 = 0", "snow 0 1 = 0", "snow 1 1 = 0", "beside 1 = 0", "snow 0 0 = 1", "beside 1 = 1");
        says("Two are BESIDE each other, if an OPEN PATH is between them.");
        in("b09 b09 b09 w01 w10", "beside 0 = 2", "beside 1 = 1", "beside 2 = 0", "snow 0 1 = 0", "beside 0 = 2",
            "snow 1 1 = 0", "beside 0 = 0", "beside 1 = 0");
    }

    private static void letters() {
        says("DAYS are 0, 1, .. (99 at most).");
        calls("count 2 = 0", "days 1 = 1", "days 20 4 times = 81", "days 18 = 99", "days 1 = FULL", "days 0 = 99");
        says("A LETTER 0, 1, .. (4 at most) is sent by one to another one, with a WORTH on its first DAY and a FALL: on"
            + " each later DAY its WORTH is less by that, 0 at least.");
        in(LINE, "days 3 = 3", "send 0 2 9 4 = 0", "letter 0 2 = 1 asked 9", "days 1 = 4", "letter 0 2 = 1 asked 5",
            "days 1 = 5", "letter 0 2 = 1 asked 1", "days 1 = 6", "letter 0 2 = 1 asked 0", "days 20 = 26",
            "letter 0 2 = 1 asked 0", "send 1 0 99 9 = 1", "send 2 0 0 0 = 2", "send 0 1 1 1 = 3",
            "send 0 1 1 1 = FULL");
        says("It is SOLD by who has it to one BESIDE, for what is ASKED, if that is in the PURSE of who buys; once a"
            + " DAY at most; to whom it is only if its WORTH is no less: then it is READ, and goes nowhere any more.");
        in("m09 b03 b06 b00 w01 w12 w13", "send 0 2 4 0 = 0", "sell 0 2 = STATE", "can 0 = 2", "purse 1 2 = 3",
            "sell 0 1 = STATE", "purse 1 3 = 2", "sell 0 1 = 3", "sell 0 2 = STATE", "can 0 = 0", "days 1 = 1",
            "can 0 = 5", "sell 0 2 = 1004", "days 1 = 2", "can 0 = 0", "sell 0 1 = STATE", "send 0 2 3 0 = 1",
            "sell 1 1 = 3", "days 1 = 3", "can 1 = 1", "sell 1 2 = STATE");
        says("The price goes from PURSE to PURSE.");
        in(LINE, "send 0 2 9 0 = 0", "sell 0 1 = 1", "bearer 0 1 = 1 asked 10", "bearer 1 1 = 1 asked 8", "days 1 = 1",
            "sell 0 2 = 1002", "bearer 0 1 = 1 asked 10", "bearer 1 1 = 1 asked 10", "bearer 2 1 = 1 asked 7");
    }

    private static void routes() {
        says("A ROUTE of a LETTER (from who has it, as it is): unlike BEARERS, the first one who has it, each next one"
            + " BESIDE, the last one to whom it is, no READERS between; each pays what is ASKED (by what that one"
            + " PAID), that being in the PURSE as it is now.");
        in(SQUARE, "send 0 3 9 0 = 0", "comes 0 = 4 asked 4", "cheapest 0 0 = 2", "purse 1 0 = 9",
            "comes 0 = 1 asked 1", "purse 1 9 = 0", "snow 4 1 = 0", "comes 0 = 2 asked 2", "snow 4 0 = 1",
            "sell 0 1 = 1", "comes 0 = 3 asked 3", "purse 3 3 = 9", "comes 0 = 2 asked 2", "purse 3 2 = 3",
            "comes 0 = 1 asked 1", "purse 3 1 = 2", "comes 0 = 0 asked 0");
        in("b09 r09 b09 w01 w12", "send 0 2 9 0 = 0", "comes 0 = 0 asked 0", "send 0 1 9 0 = 1", "comes 1 = 1 asked 1",
            "send 1 2 9 0 = 2", "comes 2 = 1 asked 1");
        says("It COMES by it, if, SOLD on one DAY after the other, from this DAY on (the next one, if it was SOLD on"
            + " this DAY), it is worth as much on its last DAY.");
        in(LINE, "send 0 2 5 3 = 0", "comes 0 = 1 asked 1", "send 0 2 4 3 = 1", "comes 1 = 0 asked 1", "sell 0 1 = 1",
            "comes 0 = 1 asked 1", "sell 1 1 = 1", "comes 1 = 0 asked 1", "days 1 = 1", "comes 0 = 1 asked 1",
            "comes 1 = 0 asked 1", "days 1 = 2", "comes 0 = 0 asked 1");
        says("LOTS: a number comes from the one ahead by 48271 times it modulo 2147483647, the first from a seed"
            + " (1 .. 2147483646).");
        // From 1 they are 48271, 182605794, ..; from 2147483646 what these lack of 2147483647.
        in("b09 b09 b09 b09 w01 w02", "send 0 3 9 0 = 0", "send 0 3 9 0 = 1", "luck 1 1 = 0", "where 0 = 2 asked 1",
            "where 1 = 1 asked 1", "undo 0 = 2", "luck 1 2147483646 = 0", "where 0 = 1 asked 1", "where 1 = 2 asked 1",
            "luck 1 0 = BAD", "luck 1 MAX = BAD");
    }

    private static void groups() {
        says("(BAD: below 0; BEYOND; STATE: it is READ; in this order).");
        for (String name : new String[] {"cheapest", "soonest", "comes", "bars", "why", "needs", "lend", "block"}) {
            String row = name.equals("cheapest") || name.equals("soonest") ? " 0" : "";
            in(LINE, "send 0 1 9 0 = 0", "sell 0 1 = 1001", name + " -1" + row + " = BAD",
            name + " 1" + row + " = BEYOND", name + " 0" + row + " = STATE");
        }
    }

    private static void promises1To9() {
        says("No ROWS, TEXTS, BEARERS; DAY 0.");
        calls("count 6 = 0", "count 7 = 0", "count 0 = 0", "count 2 = 0", "count 1 = 0", "count 3 = 0", "count 4 = 0",
            "count 5 = 0", "count 8 = 0");
        says("A ROW is there with n ints 0: n.");
        calls("row 0 0 = 0", "row 5 40 = 40", "at 5 39 = 1 asked 0", "lay 5 39 7 = 1 asked 0", "row 5 40 = 40",
            "at 5 39 = 1 asked 0");
        says("BAD: also n above 40; SIZE: below 0.");
        calls("row 0 41 = BAD", "row -1 0 = BAD", "row 6 0 = BAD", "row 0 -1 = SIZE", "row 6 -1 = BAD");
        says("Place i of a ROW is v: what it was, told by asked(): 1.");
        calls("row 0 2 = 2", "lay 0 1 5 = 1 asked 0", "lay 0 1 -6 = 1 asked 5", "at 0 1 = 1 asked -6");
        says("BAD; NOTHING; BEYOND.");
        calls("lay 6 0 0 = BAD", "lay 0 0 0 = NOTHING", "row 0 2 = 2", "lay 0 2 0 = BEYOND", "lay 0 -1 0 = BEYOND");
        says("Place i of a ROW, told by asked(): 1.");
        calls("row 3 2 = 2", "lay 3 0 -1 = 1", "at 3 0 = 1 asked -1", "at 3 1 = 1 asked 0");
        says("BAD; NOTHING; BEYOND.");
        calls("at 6 0 = BAD", "at 0 0 = NOTHING", "row 0 2 = 2", "at 0 2 = BEYOND", "at 0 -1 = BEYOND");
        says("A ROW is missing: 1.");
        calls("row 3 2 = 2", "count 6 = 1", "tear 3 = 1", "count 6 = 0", "at 3 0 = NOTHING");
        says("BAD; NOTHING.");
        calls("tear 6 = BAD", "tear -1 = BAD", "tear 0 = NOTHING");
        says("n places of a ROW, from one on, come to those of another one (perhaps itself) from one on, as if taken"
            + " ahead: 1.");
        calls("row 0 3 = 3", "lay 0 0 7 = 1", "lay 0 1 8 = 1", "lay 0 2 9 = 1", "copy 0 0 0 1 2 = 1",
            "at 0 0 = 1 asked 7", "at 0 1 = 1 asked 7", "at 0 2 = 1 asked 8", "row 1 2 = 2", "copy 0 2 1 0 1 = 1",
            "at 1 0 = 1 asked 8", "at 1 1 = 1 asked 0", "copy 0 1 0 0 2 = 1", "at 0 0 = 1 asked 7",
            "at 0 1 = 1 asked 8", "at 0 2 = 1 asked 8");
        says("BAD; SIZE: n below 0; NOTHING: either; BEYOND: not so many there.");
        calls("copy 6 0 0 0 -1 = BAD", "copy 0 0 6 0 -1 = BAD", "copy 0 0 1 0 -1 = SIZE", "copy 0 0 1 0 9 = NOTHING",
            "row 0 3 = 3", "copy 0 0 1 0 9 = NOTHING", "copy 1 0 0 0 9 = NOTHING", "row 1 2 = 2",
            "copy 0 0 1 0 3 = BEYOND", "copy 0 2 1 0 2 = BEYOND", "copy 0 -1 1 0 1 = BEYOND", "copy 0 0 1 0 2 = 1");
        says("The mean of a ROW's ints, cut, told by asked(): 1.");
        calls("row 0 2 = 2", "lay 0 0 7 = 1", "lay 0 1 8 = 1", "mean 0 = 1 asked 7", "lay 0 0 -7 = 1", "lay 0 1 -8 = 1",
            "mean 0 = 1 asked -7", "lay 0 0 MAX = 1", "lay 0 1 MAX = 1", "mean 0 = 1 asked 2147483647");
        says("BAD; NOTHING; NOUGHT.");
        calls("mean 6 = BAD", "mean 0 = NOTHING", "row 0 0 = 0", "mean 0 = NOUGHT");
        says("A TEXT is there with n blanks: n.");
        calls("text 3 80 = 80", "put 3 79 0 = 1032", "text 3 80 = 80", "put 3 79 0 = 1032", "text 0 0 = 0",
            "count 7 = 2");
        says("BAD: also n above 80; SIZE: below 0.");
        calls("text 0 81 = BAD", "text 4 0 = BAD", "text -1 0 = BAD", "text 4 -1 = BAD", "text 0 -1 = SIZE");
        says("Byte i of a TEXT is v, cut to a byte: what it was, and 1000 more.");
        calls("text 0 1 = 1", "put 0 0 255 = 1032", "put 0 0 128 = 999", "put 0 0 256 = 872", "put 0 0 127 = 1000",
            "put 0 0 -1 = 1127", "put 0 0 0 = 999");
        says("BAD; NOTHING; BEYOND.");
        calls("put 4 0 0 = BAD", "put 0 0 0 = NOTHING", "text 0 1 = 1", "put 0 1 0 = BEYOND", "put 0 -1 0 = BEYOND");
    }

    private static void promises10To17() {
        says("A FAULT of a TEXT; NONE: there is none.");
        calls("text 0 9 = 9", "fault 0 = NONE", "put 0 8 98 = 1032", "fault 0 = 9", "put 0 7 97 = 1032", "fault 0 = 7");
        says("BAD; NOTHING.");
        calls("fault 4 = BAD", "fault 0 = NOTHING");
        says("A TOWN by a TEXT (anew: DAY 0, no LETTERS, no SNOW; kept TOWNS go): how many BEARERS.");
        in(LINE, "send 0 2 9 0 = 0", "sell 0 1 = 1", "snow 1 1 = 0", "days 5 = 5", "keep 2 = 5", "town 3 = 3",
            "count 2 = 0", "count 3 = 0", "count 4 = 0", "count 5 = 0", "count 8 = 0", "bearer 0 1 = 1 asked 9",
            "write 0 r07 = 3", "town 0 = 1", "count 1 = 0", "text 0 0 = 0", "town 0 = 0", "count 0 = 0");
        says("BAD; NOTHING; STATE: a FAULT. (STATE behind NOTHING.)");
        calls("town 4 = BAD", "town 0 = NOTHING", "write 0 x = 1", "town 0 = STATE");
        says("Of a BEARER: 0 the KIND, 1 the PURSE, 2 how many are BESIDE, 3 how many LETTERS that one has, not READ,"
            + " told by asked(): 1.");
        in("b09 s08 u07 w01 w10 w12", "bearer 1 0 = 1 asked 5", "bearer 1 1 = 1 asked 8", "bearer 1 2 = 1 asked 2",
            "bearer 1 3 = 1 asked 0", "send 0 1 9 0 = 0", "send 0 2 9 0 = 1", "bearer 0 3 = 1 asked 2",
            "sell 0 1 = 1001", "sell 1 1 = 1", "bearer 0 3 = 1 asked 0", "bearer 1 3 = 1 asked 1");
        says("BAD.");
        in("b09 b09", "bearer 2 0 = BAD", "bearer -1 0 = BAD", "bearer 0 4 = BAD", "bearer 0 -1 = BAD");
        says("What a BEARER that IS of a KIND tells: a MISER (USURER, too) how much more than a BEARER of KIND 0 that"
            + " one ASKS for what was got for 0, a FRIEND (SAINT, too) how many FRIENDS (SAINTS, too) are BESIDE, a"
            + " READER how many LETTERS are to that one, not READ, a USURER what that one ASKS for what was got for 10,"
            + " a SAINT what that one PAID for LETTERS that that one has, not READ, together.");
        in(KINDS + " w25 w20 w35 w15 w05", "mark 1 1 = 2", "mark 4 1 = 5", "mark 4 4 = 26", "mark 2 2 = 1",
            "mark 5 2 = 1", "send 1 3 9 0 = 0", "mark 3 3 = 1", "sell 0 5 = 3", "mark 5 5 = 3", "send 0 3 9 0 = 1",
            "mark 3 3 = 2", "sell 1 5 = 1", "mark 5 5 = 4", "days 1 = 1", "sell 0 3 = 1000", "mark 5 5 = 1",
            "mark 3 3 = 1", "snow 0 1 = 0", "mark 2 2 = 0", "mark 5 2 = 0");
        says("BAD: also KIND 0; UNLIKE.");
        in(KINDS, "mark 0 0 = BAD", "mark 0 6 = BAD", "mark 6 1 = BAD", "mark 0 1 = UNLIKE", "mark 1 4 = UNLIKE",
            "mark 2 5 = UNLIKE");
        says("A PURSE is v (0 .. 999): what it was.");
        in(LINE, "purse 0 999 = 9", "purse 0 0 = 999", "purse 0 5 = 0", "bearer 0 1 = 1 asked 5");
        says("BAD.");
        in(LINE, "purse 0 1000 = BAD", "purse 0 -1 = BAD", "purse 3 0 = BAD", "purse -1 0 = BAD");
        says("SNOW on a PATH (1), or none (0): what it was.");
        in(LINE, "snow 1 1 = 0", "snow 1 1 = 1", "count 5 = 1", "snow 1 0 = 1", "snow 1 0 = 0", "count 5 = 0");
        says("BAD.");
        in(LINE, "snow 2 1 = BAD", "snow -1 1 = BAD", "snow 0 2 = BAD", "snow 0 -1 = BAD");
        says("What one ASKS for what was got for p (0 .. 999).");
        in(KINDS, "asks 0 999 = 1000", "asks 1 999 = 1002", "asks 2 999 = 999", "asks 3 999 = 1000",
            "asks 4 999 = 2004", "asks 5 999 = 0");
        says("BAD.");
        in(KINDS, "asks 0 1000 = BAD", "asks 0 -1 = BAD", "asks 6 0 = BAD", "asks -1 0 = BAD");
        says("Who are BESIDE one (bits).");
        in(SQUARE, "beside 0 = 6", "beside 1 = 13", "beside 2 = 11", "beside 3 = 6", "snow 0 1 = 0", "beside 0 = 4");
        says("BAD.");
        in(SQUARE, "beside 4 = BAD", "beside -1 = BAD");
    }

    private static void promises18To22() {
        says("A LETTER is sent by one to another one, with a WORTH (0 .. 99) and a FALL (0 .. 9): its number.");
        in(LINE, "send 0 2 99 9 = 0", "send 2 0 0 0 = 1", "letter 0 0 = 1 asked 0", "letter 0 1 = 1 asked 2",
            "letter 0 2 = 1 asked 99", "days 1 = 1", "letter 0 2 = 1 asked 90", "where 1 = 2 asked 0");
        says("BAD: also to oneself; FULL.");
        in(LINE, "send 0 0 9 0 = BAD", "send 0 3 9 0 = BAD", "send 3 0 9 0 = BAD", "send 0 1 100 0 = BAD",
            "send 0 1 -1 0 = BAD", "send 0 1 9 10 = BAD", "send 0 1 9 -1 = BAD", "send 0 1 9 0 4 times = 3",
            "send 0 1 9 0 = FULL");
        says("A LETTER is SOLD to one: the price; 1000 more, if it is READ.");
        in("m09 u09 b40 w01 w12", "send 0 2 99 0 = 0", "sell 0 1 = 3", "days 1 = 1", "sell 0 2 = 1012");
        says("BAD: below 0, no BEARER; BEYOND; STATE: it can't be; FULL: 40 sales. (STATE, FULL last, in this order.)");
        Calls forty = in("f00 f00 f00 w01", "sell -1 1 = BAD", "sell 0 3 = BAD", "sell 0 1 = BEYOND",
            "send 0 2 0 0 = 0", "sell 0 2 = STATE");
        for (int i = 0; i < 40; i++) {
            forty.run("sell 0 " + (1 - i % 2) + " = 0", "days 1 = " + (i + 1));
        }
        forty.run("can 0 = 2", "sell 0 1 = FULL", "sell 0 2 = STATE", "sell 1 1 = BEYOND", "sell 0 3 = BAD",
            "undo 39 = 1", "sell 0 0 = 0");
        says("n (0 .. 20) DAYS go by: the DAY.");
        calls("days 0 = 0", "days 20 = 20", "days 1 = 21");
        says("BAD; FULL: above 99.");
        calls("days 21 = BAD", "days -1 = BAD", "days 20 4 times = 80", "days 20 = FULL", "days 19 = 99");
        says("Who has a LETTER; what that one PAID by asked().");
        in(LINE, "send 0 2 9 0 = 0", "where 0 = 0 asked 0", "sell 0 1 = 1", "where 0 = 1 asked 1", "days 1 = 1",
            "sell 0 2 = 1002", "where 0 = 2 asked 2");
        says("BAD: below 0; BEYOND.");
        in(LINE, "where -1 = BAD", "where 0 = BEYOND", "where 4 = BEYOND");
        says("Of a LETTER: 0 who sent it, 1 to whom, 2 its WORTH today, 3 whether it is READ (1, 0), 4 how often it was"
            + " SOLD, told by asked(): 1.");
        in(LINE, "send 0 2 9 1 = 0", "sell 0 1 = 1", "days 1 = 1", "letter 0 0 = 1 asked 0", "letter 0 1 = 1 asked 2",
            "letter 0 2 = 1 asked 8", "letter 0 3 = 1 asked 0", "letter 0 4 = 1 asked 1", "sell 0 2 = 1002",
            "letter 0 3 = 1 asked 1", "letter 0 4 = 1 asked 2");
        says("BAD: also below 0; BEYOND.");
        in(LINE, "letter -1 0 = BAD", "letter 0 5 = BAD", "letter 0 -1 = BAD", "letter 0 0 = BEYOND");
    }

    private static void promises23To26() {
        says("To whom a LETTER can be SOLD today (bits).");
        in(SQUARE, "send 0 3 9 0 = 0", "can 0 = 6", "purse 2 0 = 9", "can 0 = 2", "sell 0 1 = 1", "can 0 = 0",
            "days 1 = 1", "can 0 = 9", "sell 0 3 = 1002", "days 1 = 2", "can 0 = 0");
        says("BAD: below 0; BEYOND.");
        in(SQUARE, "can -1 = BAD", "can 0 = BEYOND");
        says("Sales from number n on (of all LETTERS, one behind the other) are undone, the last one first (PURSES are"
            + " as ahead of it then, purse() since undone, too; DAYS, SNOW, LETTERS sent stay): how many.");
        in(LINE, "send 0 2 9 0 = 0", "sell 0 1 = 1", "purse 2 50 = 9", "days 1 = 1", "sell 0 2 = 1002", "snow 0 1 = 0",
            "send 1 0 9 0 = 1", "days 1 = 2", "undo 2 = 0", "undo 1 = 1", "where 0 = 1 asked 1",
            "bearer 2 1 = 1 asked 50", "letter 0 3 = 1 asked 0", "count 2 = 2", "count 5 = 1", "count 3 = 2",
            "undo 0 = 1", "where 0 = 0 asked 0", "bearer 0 1 = 1 asked 9", "bearer 1 1 = 1 asked 9",
            "bearer 2 1 = 1 asked 9", "count 4 = 0");
        in(LINE, "send 0 2 9 0 = 0", "send 2 0 9 0 = 1", "sell 1 1 = 1", "sell 0 1 = 1", "undo 1 = 1",
            "where 0 = 0 asked 0", "where 1 = 1 asked 1");
        says("BAD.");
        in(LINE, "undo -1 = BAD", "undo 1 = BAD", "undo 0 = 0");
        says("The TOWN (PURSES, SNOW, LETTERS, DAY; sales can't be undone then) is kept in a place (0 .. 2): the DAY.");
        in(LINE, "send 0 2 9 0 = 0", "sell 0 1 = 1", "snow 0 1 = 0", "days 7 = 7", "keep 2 = 7", "count 8 = 1",
            "days 1 = 8", "sell 0 2 = 1002", "snow 0 0 = 1", "purse 0 99 = 10", "on 2 = 7", "where 0 = 1 asked 1",
            "count 5 = 1", "bearer 0 1 = 1 asked 10", "undo 1 = BAD", "undo 0 = 0");
        says("BAD; STATE: no BEARERS.");
        calls("keep 3 = BAD", "keep -1 = BAD", "keep 0 = STATE");
        says("The TOWN is as it was kept (no sales to be undone): the DAY.");
        in(LINE, "keep 0 = 0", "days 2 = 2", "send 0 1 9 0 = 0", "keep 1 = 2", "sell 0 1 = 1001", "on 0 = 0",
            "count 3 = 0", "count 4 = 0", "on 1 = 2", "count 3 = 1", "letter 0 3 = 1 asked 0", "sell 0 1 = 1001",
            "on 1 = 2", "sell 0 1 = 1001", "count 8 = 2");
        says("BAD; NOTHING.");
        in(LINE, "on 3 = BAD", "on -1 = BAD", "on 0 = NOTHING");
    }

    private static void promises27To34() {
        says("The ROUTE by which to whom it is would pay least (whatever its WORTH; of alike ones of fewest sales, then"
            + " the first by numbers) comes to a ROW (anew): that price.");
        in("b09 m09 f09 f09 b09 b09 w01 w15 w02 w23 w35 w04 w45 w25", "send 0 5 0 9 = 0", "row 4 9 = 9",
            "cheapest 0 4 = 1", "at 4 0 = 1 asked 0", "at 4 1 = 1 asked 2", "at 4 2 = 1 asked 5", "at 4 3 = BEYOND",
            "snow 7 1 = 0", "cheapest 0 4 = 1", "at 4 1 = 1 asked 2", "at 4 2 = 1 asked 3", "at 4 3 = 1 asked 5",
            "snow 3 1 = 0", "cheapest 0 4 = 2", "at 4 1 = 1 asked 4", "snow 6 1 = 0", "cheapest 0 4 = 4",
            "at 4 1 = 1 asked 1");
        in(SQUARE, "send 0 3 9 0 = 0", "cheapest 0 0 = 2", "at 0 1 = 1 asked 1");
        says("NONE: none. BAD: also a ROW.");
        in("b09 b09", "send 0 1 9 0 = 0", "cheapest 0 0 = NONE", "cheapest 0 6 = BAD", "cheapest 0 -1 = BAD");
        says("The ROUTE of fewest sales by which it COMES (of alike ones that of the least price, then the first) comes"
            + " to a ROW (anew): how many sales; the price by asked().");
        in("b09 m09 f09 f09 b09 b09 w01 w15 w02 w23 w35 w04 w45", "send 0 5 9 0 = 0", "row 4 9 = 9",
            "soonest 0 4 = 2 asked 2", "at 4 0 = 1 asked 0", "at 4 1 = 1 asked 4", "at 4 2 = 1 asked 5",
            "at 4 3 = BEYOND", "send 0 5 1 0 = 1", "soonest 1 4 = 3 asked 1", "at 4 1 = 1 asked 2", "snow 6 1 = 0",
            "soonest 0 4 = 2 asked 4", "at 4 1 = 1 asked 1");
        in(SQUARE, "send 0 3 9 0 = 0", "soonest 0 0 = 2 asked 2", "at 0 1 = 1 asked 1");
        says("NONE: none.");
        in("b09 b09 w01", "send 0 1 0 0 = 0", "soonest 0 0 = NONE", "soonest 0 6 = BAD");
        says("By how many ROUTES it COMES; how many there are by asked().");
        in(SQUARE, "send 0 3 2 0 = 0", "comes 0 = 2 asked 4", "send 0 3 3 0 = 1", "comes 1 = 4 asked 4",
            "send 0 3 1 0 = 2", "comes 2 = 0 asked 4");
        says("Who is on each ROUTE by which it COMES (bits; both ends aside; 0 without any).");
        in("b09 b09 b09 b09 b09 w01 w12 w13 w24 w34", "send 0 4 9 0 = 0", "bars 0 = 2", "snow 1 1 = 0", "bars 0 = 10",
            "snow 0 1 = 0", "bars 0 = 0", "send 1 4 9 0 = 1", "bars 1 = 8", "snow 1 0 = 1", "bars 1 = 0");
        says("Why it never comes: 0: it COMES; 1 there is no row of unlike BEARERS from who has it to whom it is, each"
            + " BESIDE the next one, no READERS between; 2 PURSES are too small; 3 its WORTH is (the first of these).");
        in("b09 b09 b01 r09 w01 w12 w03 w32", "send 0 2 2 0 = 0", "why 0 = 2", "purse 2 2 = 1", "why 0 = 0",
            "send 0 2 1 0 = 1", "why 1 = 3", "purse 2 1 = 2", "why 1 = 2", "snow 0 1 = 0", "why 1 = 1", "why 0 = 1");
        says("The least WORTH today (0 .. 999; FALL as told) by which it COMES.");
        in(LINE, "send 0 2 0 0 = 0", "needs 0 = 2", "send 0 2 0 9 = 1", "needs 1 = 11", "sell 1 1 = 1", "needs 1 = 11",
            "days 1 = 1", "needs 1 = 2");
        in("s09 s09 s09 w01 w12", "send 0 2 0 9 = 0", "needs 0 = 0");
        says("NONE: none.");
        in(LINE, "send 0 2 0 0 = 0", "purse 2 1 = 9", "needs 0 = NONE", "snow 0 1 = 0", "needs 0 = NONE");
        says("Who, having 99 in the PURSE, would make its cheapest() price least (the first; of those between and to"
            + " whom it is); that price by asked().");
        in("b09 f00 b09 b00 w01 w13 w02 w23", "send 0 3 0 0 = 0", "lend 0 = 3 asked 2", "purse 3 1 = 0",
            "lend 0 = 1 asked 1", "purse 1 1 = 0", "lend 0 = 1 asked 1", "purse 1 0 = 1", "purse 3 2 = 1",
            "lend 0 = 1 asked 1", "snow 0 1 = 0", "lend 0 = 1 asked 2");
        says("NONE: it can't come so either.");
        in("b09 b00 b00 w01 w12", "send 0 2 0 0 = 0", "lend 0 = NONE", "purse 1 1 = 0", "lend 0 = 2 asked 2",
            "snow 0 1 = 0", "lend 0 = NONE");
        says("The fewest PATHS on which SNOW has to fall so that it does not COME; which (bits; the least) by asked()."
            + " (0: it does not.)");
        in(SQUARE, "send 0 3 9 0 = 0", "block 0 = 2 asked 3", "snow 1 1 = 0", "block 0 = 1 asked 1", "snow 0 1 = 0",
            "block 0 = 0 asked 0", "snow 0 0 = 1", "send 0 3 1 0 = 1", "block 1 = 0 asked 0");
    }

    private static void promises35To39() {
        says("What a LETTER is WORTH in one's hands d (0 .. 20) DAYS from now: to whom it is its WORTH then; to others"
            + " the most, of those BESIDE (no READERS, but to whom it is), of what it is WORTH to these the next DAY,"
            + " less 1, 0 at least (PURSES aside; 0, if d is 20).");
        in("b00 b00 b00 w01 w12", "send 0 2 9 1 = 0", "worth 0 2 0 = 9", "worth 0 2 3 = 6", "worth 0 2 20 = 0",
            "worth 0 1 0 = 7", "worth 0 0 0 = 5", "worth 0 0 3 = 2", "worth 0 0 5 = 0", "worth 0 1 20 = 0",
            "send 0 2 9 0 = 1", "worth 1 2 20 = 9", "worth 1 1 20 = 0", "worth 1 1 19 = 8", "worth 1 0 19 = 0",
            "worth 1 0 18 = 7");
        in("b00 r00 b00 w01 w12", "send 0 2 9 0 = 0", "worth 0 0 0 = 0", "worth 0 1 0 = 8", "send 0 1 9 0 = 1",
            "worth 1 0 0 = 8");
        says("BAD: also no BEARER; BEYOND; STATE.");
        in(LINE, "worth 0 0 0 = BEYOND", "worth -1 0 0 = BAD", "worth 0 3 0 = BAD", "worth 0 0 21 = BAD",
            "worth 0 0 -1 = BAD", "send 0 1 9 0 = 0", "sell 0 1 = 1001", "worth 0 0 0 = STATE", "worth 0 3 0 = BAD");
        says("The most LETTERS that one can buy today together (each can be SOLD to that one by itself; all prices in"
            + " the PURSE together); which (bits; the least) by asked().");
        in("u99 b07 b99 m99 w01 w02 w12 w13", "send 0 2 99 0 = 0", "send 3 2 99 0 = 1", "send 2 0 99 0 = 2",
            "send 0 2 99 0 = 3", "bundle 1 = 2 asked 5", "purse 1 6 = 7", "bundle 1 = 2 asked 6", "purse 1 5 = 6",
            "bundle 1 = 2 asked 6", "purse 1 3 = 5", "bundle 1 = 1 asked 2", "purse 1 0 = 3", "bundle 1 = 0 asked 0",
            "purse 1 99 = 0", "bundle 1 = 4 asked 15", "sell 1 1 = 3", "bundle 1 = 3 asked 13");
        says("BAD.");
        in(LINE, "bundle 3 = BAD", "bundle -1 = BAD");
        says("A post at one price v (0 .. 99) beside it: of how many pairs (who sends, to whom) it is cheaper than the"
            + " cheapest ROUTE of a LETTER sent so today (or there is none of these); of how many there is none by"
            + " asked().");
        in(LINE, "post 0 = 6 asked 0", "post 1 = 2 asked 0", "post 2 = 0 asked 0", "snow 1 1 = 0", "post 1 = 4 asked 4",
            "post 99 = 4 asked 4", "post 0 = 6 asked 4", "purse 1 0 = 9", "post 99 = 5 asked 5");
        says("BAD.");
        in(LINE, "post -1 = BAD", "post 100 = BAD");
        says("What one would earn by sending false news to another one today, a ROUTE as cheap as can be, WORTH w: what"
            + " is paid at last, if it is no more than w, else 0.");
        in(SQUARE, "fake 0 3 9 = 2", "fake 0 3 2 = 2", "fake 0 3 1 = 0", "fake 0 1 1 = 1", "snow 2 1 = 0",
            "snow 3 1 = 0", "fake 0 3 99 = 0", "count 3 = 0");
        says("BAD: also to oneself, w not 0 .. 99.");
        in(LINE, "fake 0 0 9 = BAD", "fake 0 3 9 = BAD", "fake 3 0 9 = BAD", "fake 0 1 100 = BAD", "fake 0 1 -1 = BAD",
            "fake 0 1 0 = 0");
        says("What all sales till now brought one, less what that one paid, told by asked() (perhaps below 0; of those"
            + " that can be undone): 1.");
        in(LINE, "send 0 2 9 0 = 0", "sell 0 1 = 1", "gain 1 = 1 asked -1", "days 1 = 1", "sell 0 2 = 1002",
            "gain 0 = 1 asked 1", "gain 1 = 1 asked 1", "gain 2 = 1 asked -2", "keep 0 = 1", "undo 1 = 1",
            "gain 1 = 1 asked -1", "gain 2 = 1 asked 0", "on 0 = 1", "gain 0 = 1 asked 0");
        says("BAD.");
        in(LINE, "gain 3 = BAD", "gain -1 = BAD");
    }

    private static void promises40To43() {
        says("From a ROW of prices (6 at most), of sales one behind the other of a LETTER sent by one: by how many rows"
            + " of unlike BEARERS, each BESIDE the one ahead, no READERS but the last one, such prices are ASKED"
            + " (PURSES aside); who can be the last (bits) by asked().");
        in("b00 b00 m00 r00 w01 w02 w13 w23 w12", "row 0 1 = 1", "had 0 0 = 0 asked 0", "lay 0 0 1 = 1",
            "had 0 0 = 2 asked 6", "row 0 2 = 2", "lay 0 0 1 = 1", "lay 0 1 2 = 1", "had 0 0 = 2 asked 12",
            "lay 0 1 4 = 1", "had 0 0 = 2 asked 10", "row 0 3 = 3", "had 0 0 = 0 asked 0", "row 0 0 = 0",
            "had 3 0 = 1 asked 8");
        says("BAD; NOTHING; SIZE: more than 6.");
        in(LINE, "had 0 6 = BAD", "had 3 0 = BAD", "had 0 0 = NOTHING", "row 0 7 = 7", "had 0 0 = SIZE", "row 0 6 = 6",
            "had 0 0 = 0 asked 0");
        says("Who are in each of these rows (bits; who sent it, too; 0 without any).");
        in("b00 b00 m00 r00 w01 w02 w13 w23 w12", "row 0 1 = 1", "sure 0 0 = 0", "lay 0 0 1 = 1", "sure 0 0 = 1",
            "row 0 2 = 2", "lay 0 0 1 = 1", "lay 0 1 2 = 1", "sure 0 0 = 3", "snow 2 1 = 0", "sure 0 0 = 7");
        says("BAD; NOTHING; SIZE.");
        in(LINE, "sure 0 6 = BAD", "sure 3 0 = BAD", "sure 0 0 = NOTHING", "row 0 7 = 7", "sure 0 0 = SIZE");
        says("The first such row (by numbers) comes to another ROW (anew; from who sent it on): how many.");
        in("b00 b00 m00 r00 w01 w02 w13 w23 w12", "row 0 2 = 2", "lay 0 0 1 = 1", "lay 0 1 2 = 1", "row 1 9 = 9",
            "first 0 0 1 = 3", "at 1 0 = 1 asked 0", "at 1 1 = 1 asked 1", "at 1 2 = 1 asked 2", "at 1 3 = BEYOND",
            "lay 0 1 4 = 1", "first 0 0 5 = 3", "at 5 1 = 1 asked 2", "at 5 2 = 1 asked 1");
        says("NONE. BAD; NOTHING; SIZE.");
        in(LINE, "row 0 1 = 1", "first 0 0 1 = NONE", "first 0 0 6 = BAD", "first 0 6 1 = BAD", "first 3 0 1 = BAD",
            "first 0 1 0 = NOTHING", "row 0 7 = 7", "first 0 0 1 = SIZE");
        says("Days by LOTS of a seed: n (1 .. 40) DAYS go by truly: on each, for each LETTER by numbers, a number: of"
            + " those to whom it can be SOLD the one at it modulo how many there are (the least first) buys it; without"
            + " any no number: how many LETTERS were READ.");
        in("b09 b09 b09 b09 w01 w02", "send 3 0 9 0 = 0", "send 0 3 9 0 = 1", "send 0 1 9 0 = 2", "luck 1 1 = 1",
            "count 2 = 1", "where 0 = 3 asked 0", "where 1 = 2 asked 1", "where 2 = 1 asked 1",
            "letter 2 3 = 1 asked 1", "count 4 = 2");
        says("BAD; STATE: no BEARERS; FULL: DAY 99 would be passed. (FULL last; it ends ahead of a forty-first sale.)");
        calls("days 20 4 times = 80", "luck 0 1 = BAD", "luck 41 1 = BAD", "luck 20 1 = STATE", "write 0 b09 = 3",
            "town 0 = 1", "days 20 4 times = 80", "luck 20 1 = FULL", "luck 19 1 = 0", "count 2 = 99",
            "luck 1 1 = FULL");
        in("f00 f00 f00 w01", "send 0 2 0 0 = 0", "luck 40 1 = 0", "count 2 = 40", "count 4 = 40", "luck 9 1 = 0",
            "count 2 = 40", "count 4 = 40");
    }

    private static void promises44To50() {
        says("What the latest lay(), at(), mean(), bearer(), where(), letter(), soonest(), comes(), lend(), block(),"
            + " bundle(), post(), gain(), had() that was not refused (nor NONE) told; 0 before.");
        in(LINE, "asked = 0", "row 0 2 = 2", "lay 0 0 1 = 1 asked 0", "lay 0 1 8 = 1 asked 0", "at 0 1 = 1 asked 8",
            "mean 0 = 1 asked 4", "bearer 0 1 = 1 asked 9", "send 0 2 9 0 = 0", "where 0 = 0 asked 0",
            "letter 0 1 = 1 asked 2", "cheapest 0 1 = 2", "asked = 2", "soonest 0 1 = 2 asked 2", "comes 0 = 1 asked 1",
            "lend 0 = 1 asked 2", "block 0 = 1 asked 1", "post 99 = 0 asked 0", "bundle 1 = 1 asked 1",
            "had 0 0 = 0 asked 0", "sell 0 1 = 1", "gain 1 = 1 asked -1", "at 0 2 = BEYOND", "asked = -1",
            "snow 1 1 = 0", "soonest 0 1 = NONE", "lend 0 = NONE", "asked = -1");
        says("The richest PURSE as a part of all PURSES, in lowest terms: its upper number (0, if all are empty).");
        in("b06 b04 b08 w01", "upper = 4", "lower = 9", "purse 2 1 = 8", "upper = 6", "lower = 11");
        in("b00 b00", "upper = 0", "lower = 1", "purse 1 999 = 0", "upper = 1", "lower = 1");
        says("Its lower number (1, if all are empty).");
        calls("upper = 0", "lower = 1");
        says("0 BEARERS, 1 PATHS, 2 the DAY, 3 LETTERS, 4 sales, 5 PATHS with SNOW, 6 ROWS, 7 TEXTS that are there, 8"
            + " kept TOWNS.");
        in(SQUARE, "row 0 0 = 0", "row 5 0 = 0", "text 0 0 = 0", "text 1 0 = 0", "days 7 = 7", "send 0 3 9 0 = 0",
            "send 0 2 9 0 = 1", "sell 0 1 = 1", "snow 0 1 = 0", "snow 4 1 = 0", "snow 3 1 = 0", "keep 0 = 7",
            "keep 1 = 7", "count 0 = 4", "count 1 = 5", "count 2 = 7", "count 3 = 2", "count 4 = 1", "count 5 = 3",
            "count 6 = 2", "count 7 = 3", "count 8 = 2");
        says("BAD.");
        calls("count -1 = BAD", "count 9 = BAD");
        says("The latest FINDING (0 before any).");
        calls("finding = 0", "at 0 0 = NOTHING", "finding = 1", "row 0 -1 = SIZE", "finding = 5", "at 9 0 = BAD",
            "finding = 5");
        says("How often a FINDING (1 .. 5) was answered.");
        calls("findings 1 = 0", "at 0 0 = NOTHING", "mean 0 = NOTHING", "findings 1 = 2", "findings 5 = 0");
        says("BAD.");
        calls("findings 0 = BAD", "findings 6 = BAD");
        says("h = 17; then h = 31 h + v for each v: count() 0 to 8; of each BEARER bearer() 0 to 3; of each PATH both,"
            + " whether there is SNOW; of each LETTER letter() 0 to 4, where(), what was PAID; of each kept TOWN its"
            + " DAY (-1: missing); of each ROW its size (-1: missing) and places, of each TEXT likewise.");
        digest();
    }

    /** A town "b09 m08 w10" on DAY 3 with SNOW, a LETTER sold, a place kept, a ROW and two TEXTS. */
    private static void digest() {
        DearLetters x = new DearLetters();
        digestIs("new", x, 17, 0, 0, 0, 0, 0, 0, 0, 0, 0, -1, -1, -1, -1, -1, -1, -1, -1, -1, -1, -1, -1, -1);
        Due.write(x, 2, "b09m08w10");
        x.town(2);
        x.send(1, 0, 9, 1);
        x.days(3);
        x.sell(0, 0);
        x.keep(1);
        x.days(1);
        x.snow(0, 1);
        Due.fill(x, 4, 70, -80);
        x.text(0, 1);
        x.put(0, 0, 200);
        digestIs("all", x, 17, 2, 1, 4, 1, 1, 1, 1, 2, 1, 0, 6, 0, 0, 1, 11, 0, 0, 1, 0, 1, 1, 0, 5, 1, 1, 0, 3, -1, 3,
            -1, -1, -1, -1, -1, 2, 70, -80, -1, 1, -56, -1, 9, 98, 48, 57, 109, 48, 56, 119, 49, 48, -1);
    }

    private static void digestIs(String what, DearLetters x, long first, int... values) {
        long h = first;
        for (int v : values) {
            h = 31 * h + v;
        }
        Due.is(sentence + " " + what, x.digest(), h);
    }

    private static void notPromised() {
        says("How the state is held inside the object is free, as are the speed of each call, the text of toString and"
            + " the behaviour of equals and hashCode. Use of one object from several threads at once is not promised to"
            + " be safe. Nothing is promised beyond the answers and state changes described above, and nothing about an"
            + " object after its 512th call.");
        nothingLeftOut(document.substring(place));
    }
}
