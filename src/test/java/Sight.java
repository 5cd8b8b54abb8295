import java.util.LinkedHashMap;
import java.util.Map;
import java.util.Set;
import java.util.TreeSet;
import java.util.function.Function;
import java.util.function.Supplier;

/**
 * All that can be seen of an object, by parts. Many a look changes what it looks at, and an object is promised 512
 * calls: so each part is looked at on an object of its own, made by the same calls.
 */
final class Sight {
    private static final String ONE_KEY = "a........./........../..........";
    private static final String PROBE = "looklokookablolkabkabcdefghaklkoa";

    private Sight() {
    }

    static Map<String, String> of(Supplier<TenFingers> made) {
        Map<String, String> parts = new LinkedHashMap<>();
        parts.put("TAPE", tape(made.get()));
        parts.put("REFUSALS", refusals(made.get()));
        parts.put("IMAGE", made.get().on() < 0 ? "none" : "taken");
        putHeld(parts, "", made);
        putHeld(parts, "IMAGE of ", () -> {
            TenFingers x = made.get();
            x.on();
            return x;
        });
        return parts;
    }

    /** The names of the parts that are not alike. */
    static Set<String> unlike(Map<String, String> one, Map<String, String> other) {
        Set<String> names = new TreeSet<>();
        for (String name : one.keySet()) {
            if (!one.get(name).equals(other.get(name))) {
                names.add(name);
            }
        }
        return names;
    }

    private static void putHeld(Map<String, String> parts, String of, Supplier<TenFingers> made) {
        parts.put(of + "BOARDS", boards(made.get()));
        parts.put(of + "LAWS", laws(made.get()));
        parts.put(of + "MEANT", signs(made.get(), true));
        parts.put(of + "WRITTEN", signs(made.get(), false));
        parts.put(of + "WORDS", words(made.get()));
        parts.put(of + "PRACTISED", practised(made.get()));
        parts.put(of + "ROW", row(made.get()));
    }

    private static String all(int count, Function<Integer, Integer> look) {
        StringBuilder text = new StringBuilder();
        for (int i = 0; i < count; i++) {
            text.append(look.apply(i)).append(' ');
        }
        return text.toString();
    }

    private static String boards(TenFingers x) {
        return all(120, i -> x.letterOn(i / 30, i % 30)) + all(104, i -> x.keyOf(i / 26, i % 26));
    }

    private static String laws(TenFingers x) {
        return all(24, i -> x.law(i / 6, i % 6, 0));
    }

    private static String signs(TenFingers x, boolean meant) {
        return x.count(meant ? 0 : 1) + ": " + all(41, i -> x.sign(meant, i));
    }

    private static String practised(TenFingers x) {
        return x.count(2) + ": " + all(11, word -> x.practise(word, 1));
    }

    /** The letters of WORDS, by the PIECES that they make of one text. */
    private static String words(TenFingers x) {
        int words = x.count(2);
        for (int word = 0; word < words; word++) {
            x.practise(word, 3);
        }
        x.board(3);
        Check.meant(x, PROBE);
        return all(x.pieces(), i -> 100 * x.piece(i, 0) + x.piece(i, 2));
    }

    /** By a HAND that takes no time for "aaa..." FAR is the sum of THE ROW, as far as MEANT goes. */
    private static String row(TenFingers x) {
        int gaps = x.count(3);
        x.board(3);
        Check.board(x, 3, ONE_KEY);
        x.law(0, 0, 0);
        x.law(0, 2, 0);
        return gaps + ": " + all(gaps, i -> {
            Check.meant(x, "a".repeat(i + 1));
            return x.far(0, 3);
        });
    }

    private static String tape(TenFingers x) {
        int bytes = x.count(4);
        int signs = x.text(false);
        return bytes + ": " + signs + " " + all(Math.max(0, signs), i -> x.sign(false, i)) + x.board(0);
    }

    private static String refusals(TenFingers x) {
        return all(6, i -> x.count(11 + i));
    }
}
