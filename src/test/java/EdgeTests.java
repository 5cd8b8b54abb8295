import java.util.Map;
import java.util.Set;
import java.util.TreeSet;
import java.util.function.Supplier;

/**
 * The parts III and IV of the document and the promises that take numbers: each sentence that names a boundary, by
 * calls just inside and just outside it. Each part is named by the words of the sentence. (What each argument may be,
 * and that a refusal changes nothing, is in RefusalTests.)
 */
public final class EdgeTests {
    private static final String QWERTY = "qwertyuiop/asdfghjkl./zxcvbnm...";
    private static final String EMPTY = "........../........../..........";
    private static final Check CHECK = new Check("EdgeTests");

    public static void main(String[] args) {
        tape();
        bytes();
        practised();
        exchange();
        betterFirst();
        betterLess();
        betterWithPieces();
        betterOnKeys();
        climb();
        climbTillNone();
        summerDays();
        summerSteps();
        everySummer();
        row();
        far();
        farOfKeys();
        nearest();
        spanOfLaws();
        spanOfLetters();
        ache();
        pauses();
        pausesAgain();
        pausesNone();
        pace();
        paceSlips();
        soonest();
        image();
        imageOfAll();
        counts();
        calls512();
        CHECK.end();
    }

    private static void due(String call, long want, long got) {
        CHECK.due(call, want, got);
    }

    private static TenFingers with(String board, String meant) {
        TenFingers x = new TenFingers();
        Check.board(x, 0, board);
        Check.meant(x, meant);
        return x;
    }

    private static void putAll(TenFingers x, int... gaps) {
        for (int gap : gaps) {
            x.put(gap);
        }
    }

    private static void tape() {
        CHECK.part("feed: n (1 .. 8) bytes come: how many THE TAPE has; -6 above 48");
        for (int room = 0; room <= 9; room++) {
            for (int n = 1; n <= 8; n++) {
                TenFingers x = new TenFingers();
                Check.feed(x, "a".repeat(48 - room));
                boolean fits = n <= room;
                due(n + " bytes in a room of " + room, fits ? 48 - room + n : -6, x.feed(n, 0));
                due("tape", fits ? 48 - room + n : 48 - room, x.count(4));
                due("refused", fits ? 0 : 1, x.count(16));
            }
        }
        TenFingers x = new TenFingers();
        Check.feed(x, "a".repeat(48));
        due("a board takes THE TAPE", -20 - 1, x.board(0));
        due("there is room again", 8, x.feed(8, 0));
    }

    private static void bytes() {
        CHECK.part("feed: the lowest first");
        long all = Check.packed("abcdefgh");
        for (int n = 1; n <= 8; n++) {
            TenFingers x = new TenFingers();
            due("feed", n, x.feed(n, all));
            due("text", n, x.text(true));
            for (int i = 0; i < 9; i++) {
                due("byte " + i + " of " + n, i < n ? i : -9, x.sign(true, i));
            }
        }
        TenFingers x = new TenFingers();
        x.feed(2, all);
        x.feed(1, all);
        x.feed(8, Long.MIN_VALUE | all);
        due("the highest byte is above z", -20 - 10, x.text(true));
        x.feed(1, -159);
        due("the lowest byte of a number below 0", 1, x.text(true));
        due("it is a", 0, x.sign(true, 0));
        x.feed(1, 256 + 98);
        due("no more than a byte", 1, x.text(true));
        due("it is b", 1, x.sign(true, 0));
    }

    private static void practised() {
        CHECK.part("practise: how often then (9999 at most)");
        TenFingers x = new TenFingers();
        Check.word(x, "ab");
        for (int i = 1; i <= 10; i++) {
            due("999 more", 999 * i, x.practise(0, 999));
        }
        due("8 more", 9998, x.practise(0, 8));
        due("to 9999", 9999, x.practise(0, 1));
        due("above 9999", 9999, x.practise(0, 1));
        due("far above 9999", 9999, x.practise(0, 999));
        due("no refusal", 0, x.count(16));
        TenFingers y = new TenFingers();
        Check.word(y, "ab");
        Check.word(y, "ab");
        due("another word", 1, y.practise(1, 1));
        due("not the first", 2, y.practise(0, 2));
        due("the other", 3, y.practise(1, 2));
        due("no third", -1, y.practise(2, 1));
    }

    private static void exchange() {
        CHECK.part("EXCHANGE of two KEYS: their letters (or none) change places");
        for (int[] keys : new int[][] {{0, 29}, {29, 0}, {0, 1}, {9, 10}, {19, 9}}) {
            TenFingers x = with(TermsTests.lay(keys[0], keys[1]), "");
            due("two letters", 1, x.exchange(0, keys[0], keys[1]));
            due("a", keys[1], x.keyOf(0, 0));
            due("b", keys[0], x.keyOf(0, 1));
            due("on the first", 1, x.letterOn(0, keys[0]));
            due("on the other", 0, x.letterOn(0, keys[1]));
            TenFingers y = with(TermsTests.lay(keys[0]), "");
            due("a letter and none", 1, y.exchange(0, keys[0], keys[1]));
            due("a", keys[1], y.keyOf(0, 0));
            due("on the first", -9, y.letterOn(0, keys[0]));
            due("on the other", 0, y.letterOn(0, keys[1]));
            due("none and a letter", 1, y.exchange(0, keys[0], keys[1]));
            due("a", keys[0], y.keyOf(0, 0));
            due("on the other", -9, y.letterOn(0, keys[1]));
            due("none and none", 1, y.exchange(1, keys[0], keys[1]));
            due("on the first", -9, y.letterOn(1, keys[0]));
            due("on the other", -9, y.letterOn(1, keys[1]));
        }
        CHECK.part("exchange: -1 any (one KEY twice, too)");
        TenFingers x = with(QWERTY, "");
        for (int key = 0; key < 30; key++) {
            due("key twice", -1, x.exchange(0, key, key));
            due("one beside it", 1, x.exchange(0, key, key == 29 ? 28 : key + 1));
        }
        due("refused", 30, x.count(11));
    }

    private static TenFingers scene(int[] keys, int[] laws, String meant) {
        TenFingers x = with(TermsTests.lay(keys), meant);
        for (int law = 0; law < 6; law++) {
            x.law(2, law, laws[law]);
        }
        return x;
    }

    /** BETTER by its words: each EXCHANGE is made on an object of its own. */
    private static int bestOf(Supplier<TenFingers> made) {
        int least = made.get().time(2, 0, false);
        int best = -9;
        for (int a = 0; a < 30; a++) {
            for (int b = a + 1; b < 30; b++) {
                TenFingers x = made.get();
                x.exchange(0, a, b);
                int time = x.time(2, 0, false);
                if (time < least) {
                    least = time;
                    best = 100 * a + b;
                }
            }
        }
        return best;
    }

    private static void dueBest(String call, int want, int[] keys, int[] laws, String meant) {
        due(call, want, scene(keys, laws, meant).better(2, 0));
        due(call + ", by making each", want, bestOf(() -> scene(keys, laws, meant)));
    }

    private static void betterFirst() {
        CHECK.part("BETTER: of all EXCHANGES (KEYS a below b, by a, b): the first such, as 100 a and b");
        int[] first = {100, 120, 90, 150, 20, 15};
        dueBest("the first of many", 5, new int[] {0, 1}, first, "ab");
        dueBest("the first a has it", 6, new int[] {9, 6}, first, "ab");
        dueBest("by a ahead of b", 1027, new int[] {14, 27}, new int[] {100, 50, 90, 150, 20, 15}, "baaa");
        dueBest("by a ahead of b", 26, new int[] {12, 26, 15}, new int[] {100, 120, 90, 150, 20, 101}, "cbcaa");
        dueBest("0 and 1 alone", 1, new int[] {21, 11, 0}, new int[] {100, 120, 90, 0, 20, 15}, "ccba");
        dueBest("0 and 1 the first", 1, new int[] {1, 11, 15}, new int[] {100, 0, 90, 150, 20, 0}, "ababc");
        dueBest("0 and 29 alone", 29, new int[] {29, 9, 0, 15, 22}, new int[] {100, 120, 90, 150, 20, 500}, "cccbecad");
        dueBest("0 and 29 the first", 29, new int[] {29, 18, 8}, new int[] {0, 120, 90, 150, 20, 15}, "ccaab");
        dueBest("28 and 29 alone", 2829, new int[] {28, 6, 19, 9, 13}, new int[] {100, 120, 0, 1, 20, 15}, "ceedcacdb");
        dueBest("in the midst alone", 1929, new int[] {29, 18, 9}, new int[] {100, 120, 101, 50, 20, 15}, "bacac");
        dueBest("two letters alone", 1219, new int[] {12, 17, 9}, new int[] {500, 120, 90, 99, 20, 15}, "bcac");
    }

    private static void betterLess() {
        CHECK.part("BETTER: if that is less than now; -9 none");
        int[] keys = {0, 1};
        dueBest("less by 1", 5, keys, new int[] {100, 101, 90, 150, 20, 15}, "ab");
        dueBest("the same", -9, keys, new int[] {100, 100, 90, 150, 20, 15}, "ab");
        dueBest("more by 1", -9, keys, new int[] {100, 99, 90, 150, 20, 15}, "ab");
        dueBest("one letter", -9, keys, new int[] {100, 99, 90, 150, 20, 15}, "a");
        dueBest("no letter", -9, keys, new int[] {100, 99, 90, 150, 20, 15}, "");
        dueBest("on no key", -9, keys, new int[] {100, 101, 90, 150, 20, 15}, "cdc");
        dueBest("one on no key", -9, keys, new int[] {100, 101, 90, 150, 20, 15}, "acb");
        dueBest("all laws 0", -9, keys, new int[] {0, 0, 0, 0, 0, 0}, "abab");
    }

    private static TenFingers pieced(int same, int times) {
        TenFingers x = scene(new int[] {0, 1}, new int[] {100, same, 90, 150, 20, 15}, "ab");
        Check.word(x, "ab");
        x.practise(0, times);
        return x;
    }

    private static void betterWithPieces() {
        CHECK.part("BETTER: behind which TIME of MEANT (with PIECES) is least");
        due("101 and 100, no piece", 5, pieced(101, 2).better(2, 0));
        due("85 and 85 hundredths, cut", -9, pieced(101, 3).better(2, 0));
        due("86 and 85", 5, pieced(102, 3).better(2, 0));
        due("50 and 50", -9, pieced(101, 10).better(2, 0));
        due("51 and 50", 5, pieced(102, 10).better(2, 0));
        due("climb, 50 and 50", 0, pieced(101, 999).climb(2, 0, 5));
        due("climb, 51 and 50", 1, pieced(102, 999).climb(2, 0, 5));
    }

    /** By great LAWS a letter would be quicker on no KEY at all (999), but an EXCHANGE leaves each on a KEY. */
    private static void betterOnKeys() {
        CHECK.part("BETTER: of all EXCHANGES of two KEYS, none of a KEY and no KEY");
        int[] five = {5, 18, 28, 14, 1};
        dueBest("not beyond 29", 514, five, new int[] {189, 999, 0, 999, 999, 999}, "daebbbacee");
        int[] six = {13, 8, 0, 21, 15, 25};
        dueBest("not beyond 29", 125, six, new int[] {742, 999, 999, 0, 999, 798}, "edbfebc");
        dueBest("not below 0", 3, new int[] {0, 14}, new int[] {999, 999, 639, 999, 0, 251}, "ba");
        dueBest("not below 0", 2, new int[] {12, 0}, new int[] {999, 999, 0, 999, 0, 999}, "ababa");
    }

    private static TenFingers crowded() {
        int[] line = {0, 1, 2, 3, 4, 10, 11, 12, 13, 14};
        return scene(line, new int[] {100, 120, 90, 150, 20, 15}, "abcdefghijacegbdfhaibjcjdifhegafbgchdj");
    }

    /** n times the BETTER EXCHANGE by hand: how many there were. */
    private static int climbByHand(TenFingers x, int n) {
        for (int made = 0; made < n; made++) {
            int best = x.better(2, 0);
            if (best < 0) {
                return made;
            }
            x.exchange(0, best / 100, best % 100);
        }
        return n;
    }

    private static void climb() {
        CHECK.part("CLIMB: n times at most (1 .. 5) the BETTER EXCHANGE is made: how many");
        for (int n = 1; n <= 5; n++) {
            TenFingers x = crowded();
            TenFingers byHand = crowded();
            due("there are " + n, n, climbByHand(byHand, n));
            due("climb " + n, n, x.climb(2, 0, n));
            for (int key = 0; key < 30; key++) {
                due("letter on " + key, byHand.letterOn(0, key), x.letterOn(0, key));
            }
            due("there are more", 1, x.better(2, 0) >= 0 ? 1 : 0);
        }
        TenFingers x = crowded();
        due("climb 0", -4, x.climb(2, 0, 0));
        due("climb 6", -6, x.climb(2, 0, 6));
        due("nothing was made", 4, x.keyOf(0, 4));
    }

    private static void climbTillNone() {
        CHECK.part("CLIMB: till there is none");
        TenFingers byHand = crowded();
        int all = climbByHand(byHand, 100);
        due("more than 5", 1, all > 5 && all < 100 ? 1 : 0);
        TenFingers x = crowded();
        for (int left = all; left > 0; left -= 5) {
            due("climb with " + left + " left", Math.min(5, left), x.climb(2, 0, 5));
        }
        due("none left", 0, x.climb(2, 0, 5));
        for (int key = 0; key < 30; key++) {
            due("letter on " + key, byHand.letterOn(0, key), x.letterOn(0, key));
        }
        TenFingers y = crowded();
        climbByHand(y, all - 1);
        due("one left of 5", 1, y.climb(2, 0, 5));
        TenFingers z = crowded();
        climbByHand(z, all - 1);
        due("one left of 1", 1, z.climb(2, 0, 1));
        due("none left of 1", 0, z.climb(2, 0, 1));
        due("none of no meant", 0, with(QWERTY, "").climb(0, 0, 5));
    }

    private static int summer(int start, int step, int gain) {
        return new TenFingers().summer(start, step, gain);
    }

    private static void summerDays() {
        CHECK.part("-9 none of days 0 .. 998");
        due("day 991 is the last that comes", 991, summer(39, 2, 1));
        due("day 989", 989, summer(4, 5, 1));
        due("day 1000", -9, summer(25, 3, 1));
        due("day 1000", -9, summer(26, 1, 3));
        due("day 1001", -9, summer(15, 1, 4));
        due("day 2925 and the like", -9, summer(0, 1, 1));
        CHECK.part("the first day behind which all done by it together is as much as by the old one, or more");
        due("99 and 101", 1, summer(99, 50, 1));
        due("99, 100, 101", 2, summer(99, 1, 1));
        due("98 and 101, one too few", 2, summer(98, 50, 1));
        due("98 and 102", 1, summer(98, 50, 2));
        due("98 and 103, one more", 1, summer(98, 50, 3));
        due("75 and 125", 1, summer(75, 50, 25));
        due("75 and 124", 2, summer(75, 50, 24));
        due("74 and 124", 2, summer(74, 50, 26));
        due("0, 50, 100, 150, 150, 150", 5, summer(0, 50, 50));
        due("0, 50, 100, 149 ..", 6, summer(0, 50, 49));
        due("50, 100, 150", 2, summer(50, 50, 50));
    }

    private static void summerSteps() {
        CHECK.part("START (0 .. 99), STEP (1 .. 50), up to 100 and GAIN (1 .. 50)");
        due("start -1", -4, summer(-1, 50, 50));
        due("start 0", 5, summer(0, 50, 50));
        due("start 99", 1, summer(99, 50, 50));
        due("start 100", -6, summer(100, 50, 50));
        due("step 0", -4, summer(99, 0, 50));
        due("step 1", 2, summer(99, 1, 50));
        due("step 50", 1, summer(99, 50, 50));
        due("step 51", -6, summer(99, 51, 50));
        due("gain 0", -4, summer(99, 50, 0));
        due("gain 1", 1, summer(99, 50, 1));
        due("gain 50", 1, summer(99, 50, 50));
        due("gain 51", -6, summer(99, 50, 51));
    }

    private static void everySummer() {
        CHECK.part("A SUMMER, each there is");
        for (int start = 0; start <= 99; start++) {
            for (int step = 1; step <= 50; step++) {
                TenFingers x = new TenFingers();
                for (int gain = 1; gain <= 50; gain++) {
                    due("summer " + start + " " + step + " " + gain, summerByDays(start, step, gain),
                        x.summer(start, step, gain));
                }
            }
        }
    }

    private static int summerByDays(int start, int step, int gain) {
        int ahead = 0;
        int does = start;
        for (int day = 0; day <= 998; day++) {
            ahead += does - 100;
            if (ahead >= 0) {
                return day;
            }
            does = Math.min(does + step, 100 + gain);
        }
        return -9;
    }

    private static void row() {
        CHECK.part("THE ROW: GAPS (0 .. 9999; 40 at most)");
        TenFingers x = new TenFingers();
        for (int i = 1; i <= 40; i++) {
            due("-1", -4, x.put(-1));
            due("10000", -6, x.put(10000));
            due("gap " + i, i, x.put(i % 2 == 0 ? 0 : 9999));
        }
        due("0, no room", -6, x.put(0));
        due("9999, no room", -6, x.put(9999));
        due("10000, no room", -6, x.put(10000));
        due("-1 is told first", -4, x.put(-1));
        due("gaps", 40, x.count(3));
        CHECK.part("unput: THE ROW has none any more: how many it had");
        due("forty", 40, x.unput());
        due("none", 0, x.unput());
        due("none", 0, x.count(3));
        due("there is room again", 1, x.put(9999));
        due("one", 1, x.unput());
    }

    private static void far() {
        CHECK.part("FAR: the sum of differences (without sign), as long as both are");
        TenFingers x = with(TermsTests.lay(0, 9), "abab");
        due("no gap", 0, x.far(0, 0));
        putAll(x, 0, 99, 100, 101, 9999);
        due("THE ROW is longer", 100 + 1 + 0 + 1, x.far(0, 0));
        Check.meant(x, "ababa");
        due("as long", 102 + 9899, x.far(0, 0));
        Check.meant(x, "ababab");
        due("MEANT is longer", 102 + 9899, x.far(0, 0));
        Check.meant(x, "a");
        due("one letter", 100, x.far(0, 0));
        Check.meant(x, "");
        due("no letter", 0, x.far(0, 0));
        CHECK.part("FAR: GAPS of MEANT (as of I, without PIECES)");
        Check.meant(x, "azb");
        due("on no key", 100 + 900 + 0, x.far(0, 0));
        Check.word(x, "azb");
        x.practise(0, 999);
        due("without pieces", 100 + 900 + 0, x.far(0, 0));
        due("on an empty board", 999 + 900 + 899, x.far(0, 3));
        TenFingers y = with(EMPTY, "z".repeat(40));
        for (int i = 0; i < 40; i++) {
            y.put(9999);
        }
        due("the farthest", 40 * 9000, y.far(0, 0));
    }

    private static void farOfKeys() {
        CHECK.part("FAR: GAPS of MEANT, from the letter ahead, by eight fingers");
        for (int from = 0; from < 30; from++) {
            TenFingers x = new TenFingers();
            x.law(1, 0, 7);
            putAll(x, 0, 0);
            for (int to = 0; to < 30; to++) {
                Check.board(x, 2, from == to ? TermsTests.lay(from) : TermsTests.lay(from, to));
                Check.meant(x, from == to ? "aa" : "ab");
                due("keys " + from + " " + to, 7 + x.gap(1, 2, from, to), x.far(1, 2));
            }
        }
        TenFingers x = with(TermsTests.lay(0, 9, 10), "abc");
        putAll(x, 100, 100, 100);
        due("b behind a, c behind b", 0, x.far(0, 0));
        Check.meant(x, "acb");
        due("c behind a, b behind c", 70, x.far(0, 0));
        Check.meant(x, "bac");
        due("a behind b, c behind a", 70, x.far(0, 0));
        x.unput();
        putAll(x, 100, 100, 170);
        due("the third as it is", 0, x.far(0, 0));
        Check.meant(x, "acb");
        due("the second is so", 140, x.far(0, 0));
    }

    private static TenFingers hands(int... alts) {
        TenFingers x = with(TermsTests.lay(0, 9), "aba");
        for (int hand = 0; hand < 4; hand++) {
            x.law(hand, 0, alts[hand]);
        }
        putAll(x, 100, 100, 100);
        return x;
    }

    private static void nearest() {
        CHECK.part("NEAREST: the HAND with the least");
        for (int hand = 0; hand < 4; hand++) {
            int[] alts = {101, 99, 101, 99};
            alts[hand] = 100;
            due("hand " + hand, hand, hands(alts).nearest(0));
        }
        due("the nearer of above and below", 2, hands(98, 102, 101, 97).nearest(0));
        CHECK.part("... -9 if two have it");
        due("0 and 3", -9, hands(100, 101, 102, 100).nearest(0));
        due("1 and 2, above and below", -9, hands(102, 101, 99, 98).nearest(0));
        due("2 and 3", -9, hands(3, 4, 5, 5).nearest(0));
        due("all", -9, hands(7, 7, 7, 7).nearest(0));
        due("two have another", 3, hands(9, 9, 8, 10).nearest(0));
        due("three have another", 1, hands(9, 10, 9, 9).nearest(0));
        due("the last of several is nearer", 3, hands(9, 9, 9, 10).nearest(0));
        due("two have it behind one farther", -9, hands(8, 9, 10, 10).nearest(0));
        due("on an empty board all have it", -9, hands(100, 9, 9, 9).nearest(1));
        CHECK.part("... or THE ROW is not as long as MEANT");
        TenFingers x = hands(100, 1, 2, 3);
        due("as long", 0, x.nearest(0));
        x.put(100);
        due("longer by one", -9, x.nearest(0));
        Check.meant(x, "abab");
        due("as long", 0, x.nearest(0));
        Check.meant(x, "ababa");
        due("shorter by one", -9, x.nearest(0));
        x.unput();
        due("no row", -9, x.nearest(0));
        Check.meant(x, "");
        due("neither", -9, x.nearest(0));
        x.put(0);
        due("no meant", -9, x.nearest(0));
    }

    /** a on one KEY, b on another one, MEANT a and b: the LAWS of which there is a SPAN. */
    private static void dueSpan(String meant, int from, int to, int law) {
        TenFingers x = with(TermsTests.lay(from, to), meant);
        putAll(x, 1, 50, 2);
        for (int other = 0; other < 3; other++) {
            due("keys " + from + " " + to + " law " + other, other == law ? 50 : -9, x.span(0, other, false));
            due("keys " + from + " " + to + " law " + other, other == law ? 50 : -9, x.span(0, other, true));
        }
    }

    private static void spanOfLaws() {
        CHECK.part("SPAN of a LAW ALT, SAME (where no LINE is between), DOUBLE");
        dueSpan("ab", 0, 9, 0);
        dueSpan("ab", 4, 5, 0);
        dueSpan("ab", 0, 29, 0);
        dueSpan("ab", 0, 1, 1);
        dueSpan("ab", 25, 29, 1);
        dueSpan("ab", 2, 4, 1);
        dueSpan("ab", 0, 11, -1);
        dueSpan("ab", 29, 17, -1);
        dueSpan("ab", 9, 10, 0);
        dueSpan("aa", 7, 8, 2);
        dueSpan("ab", 3, 4, -1);
        dueSpan("ab", 0, 10, -1);
        dueSpan("ab", 6, 15, -1);
    }

    private static void spanOfLetters() {
        CHECK.part("SPAN: the least and greatest of THE ROW at letters that are on a KEY as the one ahead is; -9 none");
        dueSpan("a", 0, 9, -1);
        dueSpan("az", 0, 9, -1);
        dueSpan("za", 0, 9, -1);
        dueSpan("zz", 0, 9, -1);
        dueSpan("", 0, 9, -1);
        TenFingers x = with(TermsTests.lay(0, 9), "abababzb");
        due("no row", -9, x.span(0, 0, true));
        x.put(9999);
        due("at the first letter none", -9, x.span(0, 0, true));
        x.put(0);
        due("0 is one", 0, x.span(0, 0, true));
        due("0 is one", 0, x.span(0, 0, false));
        putAll(x, 9999, 5, 0, 9999);
        due("least", 0, x.span(0, 0, false));
        due("greatest", 9999, x.span(0, 0, true));
        TenFingers y = with(TermsTests.lay(0, 9), "abababzba");
        putAll(y, 1, 5, 4, 6, 4, 6, 0, 9999, 7, 8);
        due("least, not behind one on no key", 4, y.span(0, 0, false));
        due("greatest, as long as MEANT", 7, y.span(0, 0, true));
        Check.meant(y, "ababab");
        due("greatest", 6, y.span(0, 0, true));
        due("on an empty board", -9, y.span(3, 0, false));
        due("law -1", -2, y.span(0, -1, true));
        due("law 3", -2, y.span(0, 3, true));
    }

    private static void ache() {
        CHECK.part("ACHE: 1 for each letter on it, 2 more if the one ahead was by it, too, on another KEY");
        for (int ahead = 0; ahead < 30; ahead++) {
            TenFingers x = new TenFingers();
            for (int key = 0; key < 30; key++) {
                Check.board(x, 3, ahead == key ? TermsTests.lay(key) : TermsTests.lay(key, ahead));
                Check.meant(x, ahead == key ? "aa" : "ba");
                int finger = x.fingerOf(key, false);
                boolean one = x.fingerOf(ahead, false) == finger;
                int want = one ? (ahead == key ? 2 : 4) : 1;
                due("keys " + ahead + " " + key, want, x.ache(3, finger));
            }
        }
        TenFingers x = with(TermsTests.lay(0, 10, 20, 1), "a");
        due("one letter", 1, x.ache(0, 0));
        due("another finger", 0, x.ache(0, 1));
        Check.meant(x, "azb");
        due("one on no key between", 2, x.ache(0, 0));
        Check.meant(x, "zb");
        due("one on no key ahead", 1, x.ache(0, 0));
        Check.meant(x, "adb");
        due("another finger between", 2, x.ache(0, 0));
        Check.meant(x, "abbcca");
        due("some", 1 + 3 + 1 + 3 + 1 + 3, x.ache(0, 0));
        Check.meant(x, "zz");
        due("on no key", 0, x.ache(0, 0));
        Check.meant(x, "");
        due("no letter", 0, x.ache(0, 0));
        Check.meant(x, "ab".repeat(20));
        due("forty letters", 1 + 39 * 3, x.ache(0, 0));
        due("finger -1", -1, x.ache(0, -1));
        due("finger 8", -1, x.ache(0, 8));
        due("finger 7", 0, x.ache(0, 7));
    }

    private static void pauses() {
        CHECK.part("PAUSES: ahead of a letter with which that would be above a LINE told one pauses");
        TenFingers x = with(TermsTests.lay(0, 9), "abab");
        due("just the line", 0, x.pauses(0, 4, 1));
        due("above it by the last", 1, x.pauses(0, 3, 1));
        due("above it by two", 2, x.pauses(0, 2, 1));
        due("above it by all but the first", 3, x.pauses(0, 1, 1));
        Check.meant(x, "ababa");
        due("just the line", 0, x.pauses(0, 5, 0));
        due("one pause of 2 is enough for two", 1, x.pauses(0, 3, 2));
        due("one pause of 1 is for one", 2, x.pauses(0, 3, 1));
        CHECK.part("... the sum is less by REST told (0 at least)");
        due("rest 2 at 2", 2, x.pauses(0, 2, 2));
        due("rest 3 at 2", 2, x.pauses(0, 2, 3));
        due("rest 999 at 2", 2, x.pauses(0, 2, 999));
        due("rest 999 at 1", 4, x.pauses(0, 1, 999));
        due("line 999", 0, x.pauses(0, 999, 999));
        CHECK.part("PAUSES: each letter adds its ACHE, as the one ahead is");
        TenFingers y = with(TermsTests.lay(0, 10, 9), "abc");
        due("1, 3, 1: ahead of the second and the third", 2, y.pauses(0, 3, 3));
        Check.meant(y, "cab");
        due("1, 1, 3: ahead of the third", 1, y.pauses(0, 3, 3));
        CHECK.part("... a letter on no KEY adds none");
        Check.meant(x, "azbzz");
        due("two letters", 0, x.pauses(0, 2, 0));
        due("one too many", -9, x.pauses(0, 1, 0));
        due("on an empty board", 0, x.pauses(1, 1, 0));
        Check.meant(x, "");
        due("no letter", 0, x.pauses(0, 1, 0));
    }

    private static void pausesAgain() {
        CHECK.part("PAUSES: again and again if need be: how many PAUSES");
        TenFingers x = with(TermsTests.lay(0, 10), "ab");
        due("1 and 3 are just the line", 0, x.pauses(0, 4, 1));
        due("3 behind 1", 1, x.pauses(0, 3, 1));
        Check.meant(x, "aba");
        due("3 behind 3, rests of 1", 1 + 3, x.pauses(0, 3, 1));
        due("3 behind 3, rests of 2", 1 + 2, x.pauses(0, 3, 2));
        due("3 behind 3, rests of 3", 1 + 1, x.pauses(0, 3, 3));
        due("3 behind 4, rests of 1", 3, x.pauses(0, 4, 1));
        due("3 behind 4, rests of 2", 2, x.pauses(0, 4, 2));
        due("3 behind 4, rests of 3", 1, x.pauses(0, 4, 3));
        due("7 is just the line", 0, x.pauses(0, 7, 1));
        Check.meant(x, "ab".repeat(20));
        due("forty letters", 1 + 38 * 3, x.pauses(0, 3, 1));
        due("118 is just the line", 0, x.pauses(0, 118, 0));
        due("117", 1, x.pauses(0, 117, 1));
    }

    private static void pausesNone() {
        CHECK.part("PAUSES: -9 if a letter adds more than LINE, or REST is 0 and one would have to");
        TenFingers x = with(TermsTests.lay(0, 10, 9), "ab");
        due("3 is more than 2", -9, x.pauses(0, 2, 999));
        due("3 is not more than 3", 1, x.pauses(0, 3, 999));
        Check.meant(x, "ca".repeat(19) + "ab");
        due("the last adds more", 1, x.pauses(0, 40, 999));
        due("the last adds more", -9, x.pauses(0, 2, 999));
        Check.meant(x, "acac");
        due("rest 0, one need not", 0, x.pauses(0, 4, 0));
        due("rest 0, one would have to", -9, x.pauses(0, 3, 0));
        due("rest 1", 1, x.pauses(0, 3, 1));
        due("line 0", -4, x.pauses(0, 0, 0));
        due("line 1", 3, x.pauses(0, 1, 1));
        due("rest -1", -4, x.pauses(0, 1, -1));
        due("line 999", 0, x.pauses(0, 999, 0));
        due("line 1000", -6, x.pauses(0, 1000, 0));
        due("rest 999", 3, x.pauses(0, 1, 999));
        due("rest 1000", -6, x.pauses(0, 1, 1000));
    }

    /** MEANT of letters on one KEY, that takes the first time told, and others told for each one more. */
    private static TenFingers timed(int letters, int first, int others) {
        TenFingers x = with(TermsTests.lay(0), "a".repeat(letters));
        x.law(0, 0, first);
        x.law(0, 2, others);
        return x;
    }

    private static void pace() {
        CHECK.part("PACE p (1 .. 9): TIME (with PIECES) times 10 by (10 and p), cut");
        for (int p = 1; p <= 9; p++) {
            due("pace " + p + ", even", 10 * p, timed(1, p * (10 + p), 0).pace(0, 0, p, 9999));
            due("pace " + p + ", a little less", 10 * p - 1, timed(1, p * (10 + p) - 1, 0).pace(0, 0, p, 9999));
            due("pace " + p + " of no time", 0, timed(1, 0, 0).pace(0, 0, p, 9999));
            due("pace " + p + " of no letter", 0, timed(0, 5, 5).pace(0, 0, p, 9999));
            due("pace " + p + " of 1", 0, timed(1, 1, 0).pace(0, 0, p, 9999));
        }
        TenFingers x = timed(2, 100, 90);
        Check.word(x, "aa");
        x.practise(0, 2);
        due("no piece yet", 1900 / 11, x.pace(0, 0, 1, 0));
        x.practise(0, 1);
        due("with pieces", 1760 / 11, x.pace(0, 0, 1, 0));
        due("p 0", -4, x.pace(0, 0, 0, 0));
        due("p 10", -6, x.pace(0, 0, 10, 0));
        due("by eight fingers", (100 + 120) * 10 / 11, with(TermsTests.lay(0, 1), "ab").pace(0, 0, 1, 0));
    }

    private static void paceSlips() {
        CHECK.part("of N letters N times p times p hundredths, cut, are SLIPS; each costs a MEND (0 .. 9999) more");
        for (int letters = 0; letters <= 40; letters++) {
            TenFingers x = timed(letters, 0, 0);
            for (int p = 1; p <= 9; p++) {
                int slips = (int) Math.floor(letters * p * p * 0.01 + 1e-9);
                due(letters + " letters at pace " + p, slips, x.pace(0, 0, p, 1));
                due("mend 0", 0, x.pace(0, 0, p, 0));
                due("mend 9999", slips * 9999, x.pace(0, 0, p, 9999));
            }
        }
        due("4 letters at 5 have a slip", 1, timed(4, 0, 0).pace(0, 0, 5, 1));
        due("3 letters at 5 have none", 0, timed(3, 0, 0).pace(0, 0, 5, 1));
        due("mend -1", -4, timed(4, 0, 0).pace(0, 0, 5, -1));
        due("mend 10000", -6, timed(4, 0, 0).pace(0, 0, 5, 10000));
    }

    private static void soonest() {
        CHECK.part("SOONEST: the PACE with the least in all, of several the least");
        int[] want = {1, 1, 1, 6, 4, 7, 6, 8, 7, 9, 7, 9, 8};
        for (int time = 0; time < want.length; time++) {
            due("one letter in " + time, want[time], timed(1, time, 0).soonest(0, 0, 9999));
        }
        for (int letters = 0; letters <= 40; letters += 3) {
            TenFingers x = timed(letters, 100, 90);
            for (int mend : new int[] {0, 1, 5, 30, 77, 9999}) {
                int best = 1;
                for (int p = 2; p <= 9; p++) {
                    best = x.pace(0, 0, p, mend) < x.pace(0, 0, best, mend) ? p : best;
                }
                due(letters + " letters, mend " + mend, best, x.soonest(0, 0, mend));
            }
        }
        TenFingers x = with(TermsTests.lay(0, 1), "ab".repeat(20));
        x.law(0, 0, 0);
        x.law(0, 1, 0);
        due("no time by eight fingers", 1, x.soonest(0, 0, 0));
        x.law(0, 1, 999);
        x.law(0, 3, 0);
        x.law(0, 4, 0);
        due("no time by two fingers", 9, x.soonest(0, 0, 0));
        due("slips of no cost", 9, timed(40, 100, 90).soonest(0, 0, 0));
        due("slips of great cost", 1, timed(40, 100, 90).soonest(0, 0, 9999));
        due("mend -1", -4, timed(4, 0, 0).soonest(0, 0, -1));
        due("mend 10000", -6, timed(4, 0, 0).soonest(0, 0, 10000));
    }

    private static void image() {
        CHECK.part("image: how many WORDS; on: how many WORDS. -3 there is none");
        TenFingers x = new TenFingers();
        due("there is none", -3, x.on());
        due("refused", 1, x.count(13));
        for (int words = 0; words <= 10; words++) {
            due("image of " + words, words, x.image());
            due("on from " + words, words, x.on());
            Check.word(x, "ab");
            due("on from " + words + ", again", words, x.on());
            Check.word(x, "ab");
        }
        due("a refused on is no more", 1, x.count(13));
        CHECK.part("an image of nothing is one, too");
        TenFingers y = new TenFingers();
        due("image", 0, y.image());
        Check.board(y, 0, QWERTY);
        Check.meant(y, "ab");
        Check.word(y, "ab");
        y.put(5);
        y.law(0, 0, 5);
        due("on", 0, y.on());
        due("board", -9, y.letterOn(0, 0));
        due("meant", 0, y.count(0));
        due("words", 0, y.count(2));
        due("row", 0, y.count(3));
        due("law", 100, y.law(0, 0, 7));
        due("no word", -1, y.practise(0, 1));
    }

    private static TenFingers filled(int turn) {
        TenFingers x = new TenFingers();
        for (int board = 0; board < 4; board++) {
            Check.board(x, board, TermsTests.lay(board + turn, 9 + turn, 20 + turn));
        }
        for (int law = 0; law < 24; law++) {
            x.law(law / 6, law % 6, law + 100 * turn);
        }
        Check.meant(x, "lookaokablk".substring(turn));
        Check.written(x, "abc<defg".substring(turn));
        String[] words = {"ok", "lok", "look", "ab"};
        for (int word = 0; word < 10 - turn; word++) {
            Check.word(x, words[(word + turn) % 4]);
            x.practise(word, 1 + word + turn);
        }
        for (int gap = 0; gap < 40 - turn; gap++) {
            x.put(gap * 7 + turn);
        }
        return x;
    }

    /** The same object, changed in all that THE IMAGE keeps. */
    private static TenFingers changed(TenFingers x) {
        for (int board = 0; board < 4; board++) {
            Check.board(x, board, TermsTests.lay(29 - board, 15, 7, 6, 5));
        }
        for (int law = 0; law < 24; law++) {
            x.law(law / 6, law % 6, 999 - law);
        }
        Check.meant(x, "zyxwvu");
        Check.written(x, "a<");
        for (int word = 0; word < x.count(2); word++) {
            x.practise(word, 100);
        }
        x.unput();
        return x;
    }

    private static void imageOfAll() {
        CHECK.part("THE IMAGE: BOARDS, LAWS, TEXTS, WORDS, THE ROW; ON from it all is as then");
        for (int turn = 0; turn < 2; turn++) {
            int of = turn;
            Map<String, String> then = Sight.of(() -> filled(of));
            Map<String, String> now = Sight.of(() -> {
                TenFingers x = filled(of);
                x.image();
                changed(x).on();
                return x;
            });
            Set<String> unlike = Sight.unlike(then, now);
            unlike.removeIf(name -> name.startsWith("IMAGE"));
            due("unlike are " + unlike, 0, unlike.size());
            Set<String> ofImage = new TreeSet<>();
            for (String name : now.keySet()) {
                if (now.containsKey("IMAGE of " + name) && !now.get(name).equals(now.get("IMAGE of " + name))) {
                    ofImage.add(name);
                }
            }
            due("unlike in the image are " + ofImage, 0, ofImage.size());
        }
        CHECK.part("(THE TAPE and REFUSALS stay)");
        TenFingers x = new TenFingers();
        x.feed(3, Check.packed("abc"));
        x.board(4);
        x.image();
        x.feed(2, Check.packed("de"));
        x.board(4);
        x.on();
        due("bytes on THE TAPE", 5, x.count(4));
        due("REFUSALS", 2, x.count(11));
        due("the bytes", 5, x.text(true));
        due("the last of them", 4, x.sign(true, 4));
        x.on();
        due("THE TAPE has none, as behind the text", 0, x.count(4));
    }

    private static void counts() {
        CHECK.part("count: 0 .. 4, 11 .. 16; -9 for another what");
        TenFingers x = new TenFingers();
        for (int what = -40; what <= 60; what++) {
            boolean told = what >= 0 && what <= 4 || what >= 11 && what <= 16;
            due("count " + what, told ? 0 : -9, x.count(what));
        }
        Check.meant(x, "a".repeat(40));
        Check.written(x, "b".repeat(39));
        Check.feed(x, "c".repeat(48));
        for (int i = 0; i < 38; i++) {
            x.put(1);
        }
        due("letters of MEANT", 40, x.count(0));
        due("signs of WRITTEN", 39, x.count(1));
        due("WORDS", 0, x.count(2));
        due("GAPS of THE ROW", 38, x.count(3));
        due("bytes on THE TAPE", 48, x.count(4));
        due("no REFUSAL -5", 0, x.count(15));
    }

    private static void calls512() {
        CHECK.part("An object is used for at most 512 calls");
        TenFingers x = new TenFingers();
        for (int call = 1; call < 512; call++) {
            due("call " + call, -1, x.letterOn(4, 0));
        }
        due("call 512", 511, x.count(11));
        TenFingers y = crowded();
        int calls = 5 + 6 + 6;
        while (calls < 506) {
            y.image();
            y.on();
            y.soonest(2, 0, 50);
            calls += 3;
        }
        due("climb, late", 5, y.climb(2, 0, 5));
        due("image, late", 0, y.image());
        due("on, late", 0, y.on());
    }
}
