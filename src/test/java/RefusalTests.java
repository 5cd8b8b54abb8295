import java.util.ArrayList;
import java.util.Arrays;
import java.util.List;
import java.util.Map;
import java.util.Set;
import java.util.TreeSet;
import java.util.function.Supplier;
import java.util.function.ToIntFunction;

/**
 * "REFUSALS (the call answers the number, the first that fits in the order in which it tells them; nothing changes but
 * how many there were)": each call with each argument just inside and just outside of what the document allows, all of
 * them together, and what each call changes when it is not refused.
 */
public final class RefusalTests {
    private static final Check CHECK = new Check("RefusalTests");
    private static final List<Face> FACE = new ArrayList<>();

    /** A call of the class with its arguments as a row. */
    private interface Call {
        int on(TenFingers x, int[] arguments);
    }

    /** What an argument may be, and the REFUSALS below and above that. */
    private static final class Range {
        final int least;
        final int greatest;
        final int below;
        final int above;

        Range(int least, int greatest, int below, int above) {
            this.least = least;
            this.greatest = greatest;
            this.below = below;
            this.above = above;
        }

        int[] edges() {
            return new int[] {Integer.MIN_VALUE, least - 1, least, greatest, greatest + 1, Integer.MAX_VALUE};
        }

        int refusal(int v) {
            if (v < least) {
                return below;
            }
            return v > greatest ? above : 0;
        }
    }

    private static final class Face {
        final String name;
        final Call call;
        final Range[] ranges;

        Face(String name, Call call, Range... ranges) {
            this.name = name;
            this.call = call;
            this.ranges = ranges;
        }
    }

    private static final Range BOARD = new Range(0, 3, -1, -1);
    private static final Range HAND = new Range(0, 3, -1, -1);
    private static final Range KEY = new Range(0, 29, -1, -1);

    private static Range number(int least, int greatest) {
        return new Range(least, greatest, -4, -6);
    }

    private static Range other(int greatest) {
        return new Range(0, greatest, -2, -2);
    }

    private static Range nobody(int greatest) {
        return new Range(0, greatest, -1, -1);
    }

    public static void main(String[] args) {
        fillFace();
        for (Face face : FACE) {
            everyEdge(face, new int[face.ranges.length], 0);
            oneOutside(face);
        }
        refusedByState();
        exchangeOfOneKey();
        changesOnly();
        faultsChangeOnlyTape();
        countsApart();
        CHECK.end();
    }

    private static void add(String name, Call call, Range... ranges) {
        FACE.add(new Face(name, call, ranges));
    }

    private static void fillFace() {
        add("feed", (x, a) -> x.feed(a[0], -1L), number(1, 8));
        add("board", (x, a) -> x.board(a[0]), BOARD);
        add("keyOf", (x, a) -> x.keyOf(a[0], a[1]), BOARD, nobody(25));
        add("letterOn", (x, a) -> x.letterOn(a[0], a[1]), BOARD, KEY);
        add("fingerOf", (x, a) -> x.fingerOf(a[0], false), KEY);
        add("fingerOf two", (x, a) -> x.fingerOf(a[0], true), KEY);
        add("law", (x, a) -> x.law(a[0], a[1], a[2]), HAND, nobody(5), number(0, 999));
        add("gap", (x, a) -> x.gap(a[0], a[1], a[2], a[3]), HAND, BOARD, KEY, KEY);
        add("practise", (x, a) -> x.practise(a[0], a[1]), nobody(2), number(1, 999));
        add("piece", (x, a) -> x.piece(0, a[0]), other(2));
        add("piece of none", (x, a) -> x.piece(-1, a[0]), other(2));
        add("time", (x, a) -> x.time(a[0], a[1], false), HAND, BOARD);
        add("time two", (x, a) -> x.time(a[0], a[1], true), HAND, BOARD);
        add("may", (x, a) -> x.may(a[0]), BOARD);
        add("where", (x, a) -> x.where(a[0], a[1]), BOARD, other(7));
        add("exchange a", (x, a) -> x.exchange(a[0], a[1], 15), BOARD, KEY);
        add("exchange b", (x, a) -> x.exchange(a[0], 15, a[1]), BOARD, KEY);
        add("better", (x, a) -> x.better(a[0], a[1]), HAND, BOARD);
        add("climb", (x, a) -> x.climb(a[0], a[1], a[2]), HAND, BOARD, number(1, 5));
        add("summer", (x, a) -> x.summer(a[0], a[1], a[2]), number(0, 99), number(1, 50), number(1, 50));
        add("put", (x, a) -> x.put(a[0]), number(0, 9999));
        add("far", (x, a) -> x.far(a[0], a[1]), HAND, BOARD);
        add("nearest", (x, a) -> x.nearest(a[0]), BOARD);
        add("span least", (x, a) -> x.span(a[0], a[1], false), BOARD, other(2));
        add("span greatest", (x, a) -> x.span(a[0], a[1], true), BOARD, other(2));
        add("ache", (x, a) -> x.ache(a[0], a[1]), BOARD, nobody(7));
        add("pauses", (x, a) -> x.pauses(a[0], a[1], a[2]), BOARD, number(1, 999), number(0, 999));
        add("pace", (x, a) -> x.pace(a[0], a[1], a[2], a[3]), HAND, BOARD, number(1, 9), number(0, 9999));
        add("soonest", (x, a) -> x.soonest(a[0], a[1], a[2]), HAND, BOARD, number(0, 9999));
    }

    private static TenFingers lived() {
        TenFingers x = new TenFingers();
        Check.board(x, 0, "qwertyuiop/asdfghjkl./zxcvbnm...");
        Check.board(x, 1, "lo......../........../.........k");
        Check.meant(x, "lok");
        Check.word(x, "look");
        x.practise(0, 2);
        x.put(17);
        x.law(1, 1, 111);
        x.image();
        Check.board(x, 2, "abcdefghij/........../..........");
        Check.meant(x, "lookablok");
        Check.written(x, "lookbblok");
        Check.word(x, "ok");
        Check.word(x, "lok");
        x.practise(0, 5);
        x.practise(1, 3);
        x.law(1, 0, 77);
        x.law(3, 5, 999);
        for (int i = 0; i < 9; i++) {
            x.put(100 + 11 * i);
        }
        x.board(4);
        x.piece(0, 3);
        x.word();
        x.put(-1);
        x.put(10000);
        Check.feed(x, "abk");
        return x;
    }

    /** No room for a byte, a WORD, a GAP more. */
    private static TenFingers full() {
        TenFingers x = new TenFingers();
        for (int word = 0; word < 10; word++) {
            Check.word(x, "abcdefgh".substring(0, 2 + word % 7));
        }
        for (int i = 0; i < 40; i++) {
            x.put(9999 - i);
        }
        Check.meant(x, "abcdefghij".repeat(4));
        Check.written(x, "abcdefghi<".repeat(4));
        x.image();
        Check.feed(x, "abcdefgh".repeat(6));
        return x;
    }

    /** The numbers come as the document tells them: -1, -2, -4, -6. */
    private static int firstRefusal(Face face, int[] arguments) {
        int first = 0;
        for (int i = 0; i < arguments.length; i++) {
            int refusal = face.ranges[i].refusal(arguments[i]);
            first = refusal < 0 && (first == 0 || refusal > first) ? refusal : first;
        }
        return first;
    }

    private static void everyEdge(Face face, int[] arguments, int i) {
        if (i == arguments.length) {
            dueAtEdge(face, arguments);
            return;
        }
        for (int v : face.ranges[i].edges()) {
            arguments[i] = v;
            everyEdge(face, arguments, i + 1);
        }
    }

    private static void dueAtEdge(Face face, int[] arguments) {
        CHECK.part("the first that fits");
        TenFingers x = lived();
        int[] before = refusals(x);
        int answer = face.call.on(x, arguments);
        int want = firstRefusal(face, arguments);
        String told = face.name + Arrays.toString(arguments);
        if (want < 0) {
            CHECK.due(told, want, answer);
            before[-want]++;
        } else {
            CHECK.due(told + " is no refusal", 1, answer >= 0 || answer == -9 || answer <= -20 ? 1 : 0);
        }
        CHECK.due(told + " is counted", 1, Arrays.equals(before, refusals(x)) ? 1 : 0);
    }

    private static int[] refusals(TenFingers x) {
        int[] counts = new int[7];
        for (int i = 1; i <= 6; i++) {
            counts[i] = x.count(10 + i);
        }
        return counts;
    }

    /** Each argument alone just outside, the others inside: nothing changes. */
    private static void oneOutside(Face face) {
        for (int i = 0; i < face.ranges.length; i++) {
            for (int v : new int[] {face.ranges[i].least - 1, face.ranges[i].greatest + 1}) {
                int[] arguments = new int[face.ranges.length];
                for (int other = 0; other < arguments.length; other++) {
                    arguments[other] = face.ranges[other].greatest;
                }
                arguments[i] = v;
                String told = face.name + Arrays.toString(arguments);
                dueRefused(told, firstRefusal(face, arguments), RefusalTests::lived,
                    x -> face.call.on(x, arguments));
            }
        }
    }

    private static void dueRefused(String told, int want, Supplier<TenFingers> made, ToIntFunction<TenFingers> call) {
        CHECK.part("nothing changes but how many there were");
        TenFingers x = made.get();
        CHECK.due(told, want, call.applyAsInt(x));
        dueChanges(told, made, call, "REFUSALS");
    }

    private static void dueChanges(String told, Supplier<TenFingers> made, ToIntFunction<TenFingers> call,
                                   String... wanted) {
        Map<String, String> before = Sight.of(made);
        Map<String, String> after = Sight.of(() -> {
            TenFingers x = made.get();
            call.applyAsInt(x);
            return x;
        });
        Set<String> want = new TreeSet<>(List.of(wanted));
        Set<String> found = Sight.unlike(before, after);
        CHECK.due(told + " changes " + found + ", not " + want, 1, found.equals(want) ? 1 : 0);
    }

    private static void refusedByState() {
        dueRefused("feed above 48", -6, RefusalTests::full, x -> x.feed(1, 97));
        dueRefused("text above 40", -6, RefusalTests::full, x -> x.text(true));
        dueRefused("written above 40", -6, RefusalTests::full, x -> x.text(false));
        dueRefused("word 10", -6, RefusalTests::full, x -> x.word());
        dueRefused("put 40", -6, RefusalTests::full, x -> x.put(5));
        dueRefused("practise 10", -1, RefusalTests::full, x -> x.practise(10, 1));
        dueRefused("feed 0 at 48", -4, RefusalTests::full, x -> x.feed(0, 97));
        dueRefused("put -1 at 40", -4, RefusalTests::full, x -> x.put(-1));
        dueRefused("on without image", -3, TenFingers::new, x -> x.on());
        dueRefused("practise without word", -1, TenFingers::new, x -> x.practise(0, 1));
        dueRefused("word of none", -3, TenFingers::new, x -> x.word());
        CHECK.part("-3 not 2 to 8 letters (THE TAPE has none, too)");
        for (String letters : new String[] {"a", "abcdefghi", "abcdefgh".repeat(6)}) {
            Supplier<TenFingers> made = () -> {
                TenFingers x = lived();
                x.text(true);
                Check.feed(x, letters);
                return x;
            };
            CHECK.due("word " + letters, -3, made.get().word());
            dueChanges("word " + letters, made, x -> x.word(), "REFUSALS", "TAPE");
        }
    }

    private static void exchangeOfOneKey() {
        dueRefused("exchange of one key", -1, RefusalTests::lived, x -> x.exchange(0, 7, 7));
        dueRefused("exchange of one key, none on it", -1, RefusalTests::lived, x -> x.exchange(3, 0, 0));
        dueRefused("exchange of no key twice", -1, RefusalTests::lived, x -> x.exchange(0, 30, 30));
    }

    private static void changesOnly() {
        CHECK.part("what a call changes");
        Supplier<TenFingers> made = RefusalTests::lived;
        dueChanges("feed", made, x -> x.feed(8, 0), "TAPE");
        dueChanges("text meant", made, x -> x.text(true), "TAPE", "MEANT");
        dueChanges("text written", made, x -> x.text(false), "TAPE", "WRITTEN");
        dueChanges("word", made, x -> x.word(), "TAPE", "WORDS", "PRACTISED");
        dueChanges("law", made, x -> x.law(2, 3, 151), "LAWS");
        dueChanges("practise", made, x -> x.practise(2, 1), "PRACTISED");
        dueChanges("exchange", made, x -> x.exchange(0, 0, 1), "BOARDS");
        dueChanges("climb", made, x -> x.climb(0, 0, 1), "BOARDS");
        dueChanges("put", made, x -> x.put(0), "ROW");
        dueChanges("unput", made, x -> x.unput(), "ROW");
        dueChanges("image", made, x -> x.image(), "IMAGE of BOARDS", "IMAGE of LAWS", "IMAGE of MEANT",
            "IMAGE of WRITTEN", "IMAGE of WORDS", "IMAGE of PRACTISED", "IMAGE of ROW");
        dueChanges("on", made, x -> x.on(), "BOARDS", "LAWS", "MEANT", "WRITTEN", "WORDS", "PRACTISED", "ROW");
        dueChanges("the first image", TenFingers::new, x -> x.image(), "IMAGE");
        dueChanges("exchange of none and none", made, x -> x.exchange(3, 0, 29));
        dueChanges("law to what it is", made, x -> x.law(0, 0, 100));
        dueChanges("a board", () -> {
            TenFingers x = lived();
            x.text(true);
            Check.feed(x, "z........./........../..........");
            return x;
        }, x -> x.board(3), "TAPE", "BOARDS");
        dueChangesNothing(made);
        dueChangesNothing(RefusalTests::full);
        dueChangesNothing(TenFingers::new);
    }

    private static void dueChangesNothing(Supplier<TenFingers> made) {
        dueChanges("all that only look", made, x -> {
            x.keyOf(0, 25);
            x.letterOn(0, 29);
            x.fingerOf(29, true);
            x.gap(3, 3, 0, 29);
            x.sign(true, 40);
            x.sign(false, -1);
            x.piece(0, 2);
            x.piece(40, 0);
            x.pieces();
            x.time(0, 1, false);
            x.time(0, 0, true);
            x.may(0);
            x.where(0, 7);
            x.better(0, 2);
            x.better(0, 0);
            x.summer(99, 50, 50);
            x.far(0, 0);
            x.nearest(0);
            x.span(0, 0, true);
            x.ache(0, 7);
            x.pauses(0, 999, 0);
            x.pauses(0, 1, 0);
            x.pace(0, 0, 9, 9999);
            x.soonest(0, 0, 9999);
            x.count(17);
            return x.count(0);
        });
    }

    private static TenFingers livedWithTape(String tape) {
        TenFingers x = lived();
        x.text(true);
        Check.feed(x, tape);
        return x;
    }

    private static void faultsChangeOnlyTape() {
        CHECK.part("a FAULT: nothing is counted; THE TAPE has none, too");
        for (String tape : new String[] {"z.", "zz", ".A", "z........./........../.........z"}) {
            dueChanges("board by " + tape, () -> livedWithTape(tape), x -> x.board(0), "TAPE");
        }
        for (String tape : new String[] {"z<", ".", "zA", "abcdefg."}) {
            dueChanges("meant by " + tape, () -> livedWithTape(tape), x -> x.text(true), "TAPE");
            dueChanges("word by " + tape, () -> livedWithTape(tape), x -> x.word(), "TAPE");
        }
        for (String tape : new String[] {"z=", ".", "zA", "<;"}) {
            dueChanges("written by " + tape, () -> livedWithTape(tape), x -> x.text(false), "TAPE");
        }
        dueChanges("board by no tape", () -> livedWithTape(""), x -> x.board(0));
    }

    private static void countsApart() {
        CHECK.part("11 .. 16 REFUSALS -1 .. -6");
        TenFingers x = new TenFingers();
        int[] times = {0, 5, 4, 3, 2, 0, 1};
        for (int i = 0; i < 5; i++) {
            x.fingerOf(30, false);
        }
        for (int i = 0; i < 4; i++) {
            x.piece(0, 3);
        }
        for (int i = 0; i < 3; i++) {
            x.on();
        }
        for (int i = 0; i < 2; i++) {
            x.feed(0, 0);
        }
        x.feed(9, 0);
        for (int number = 1; number <= 6; number++) {
            CHECK.due("count " + (10 + number), times[number], x.count(10 + number));
        }
    }
}
