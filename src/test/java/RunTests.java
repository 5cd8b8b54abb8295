/**
 * Long runs of calls, the same ones each time, with the answers of Naive as those that are due. Texts are made so
 * that the rarer states (SLIPS of each kind, PIECES, letters on no KEY, refusals) come often.
 */
public final class RunTests {
    private static final int RUNS = 1500;
    // An object is promised 512 calls, and one turn of a run makes up to some fifty.
    private static final int CALLS = 460;
    private static final Check CHECK = new Check("RunTests");

    private final TenFingers x = new TenFingers();
    private final Naive due = new Naive();
    private final String letters;
    private long seed;
    private String meant = "";
    private int calls = 0;

    private RunTests(int run) {
        seed = run * 7919L + 12345;
        letters = "abcdefghijklmnopqrstuvwxyz".substring(0, 2 + pick(run % 3 == 0 ? 25 : 6));
    }

    public static void main(String[] args) {
        int[] told = new int[256];
        for (int run = 0; run < RUNS; run++) {
            CHECK.part("run " + run);
            new RunTests(run).go(told);
        }
        CHECK.part("MAY over all runs");
        for (int kind = 0; kind < 8; kind++) {
            int often = 0;
            for (int bits = 0; bits < 256; bits++) {
                often += (bits >> kind & 1) * told[bits];
            }
            System.out.println("KIND " + kind + " was told " + often + " times");
            CHECK.due("kind " + kind + " came often", 1, often > 50 ? 1 : 0);
        }
        CHECK.end();
    }

    private int pick(int n) {
        seed = seed * 6364136223846793005L + 1442695040888963407L;
        return (int) ((seed >>> 33) % n);
    }

    /** Mostly 0 .. n - 1, now and then beside that or far from it. */
    private int near(int n) {
        switch (pick(24)) {
            case 0:
                return -1;
            case 1:
                return n;
            case 2:
                return new int[] {Integer.MIN_VALUE, Integer.MAX_VALUE, -n, 1 << 20}[pick(4)];
            default:
                return pick(n);
        }
    }

    private void same(String call, int want, int got) {
        calls++;
        CHECK.due(call, want, got);
    }

    private void go(int[] told) {
        while (calls < CALLS) {
            if (pick(3) == 0) {
                change();
            } else {
                ask(told);
            }
        }
    }

    private char letter() {
        return letters.charAt(pick(letters.length()));
    }

    private String word(int length) {
        StringBuilder text = new StringBuilder();
        for (int i = 0; i < length; i++) {
            boolean again = i > 0 && pick(4) == 0;
            text.append(again ? text.charAt(i - 1) : letter());
        }
        return text.toString();
    }

    private String boardText() {
        StringBuilder text = new StringBuilder("........../........../..........");
        int spread = pick(2) == 0 ? 32 : 12;
        for (int i = 0; i < letters.length(); i++) {
            int place = pick(spread);
            if (text.charAt(place) == '.') {
                text.setCharAt(place, letters.charAt(i));
            }
        }
        return text.toString();
    }

    /** MEANT with one SLIP of some kind, or with nearly one. */
    private String slipped() {
        if (meant.isEmpty()) {
            return word(pick(3));
        }
        int i = pick(meant.length());
        String head = meant.substring(0, i);
        String tail = meant.substring(i + 1);
        char here = meant.charAt(i);
        char next = tail.isEmpty() ? letter() : tail.charAt(0);
        switch (pick(8)) {
            case 0:
                return head + letter() + tail;
            case 7:
                return head + mirrored(here) + tail;
            case 1:
                return tail.isEmpty() ? head : head + next + here + tail.substring(1);
            case 2:
                return head + next + tail;
            case 3:
                return head + tail;
            case 4:
                return head + letter() + "<" + here + tail;
            case 5:
                return i > 0 ? head + meant.charAt(i - 1) + tail : meant + letter() + "<";
            default:
                return head + letter() + "<" + tail;
        }
    }

    /** The letter across from this one on some BOARD; this one itself if there is none. */
    private char mirrored(char here) {
        int board = pick(4);
        int key = due.keyOf(board, here - 'a');
        int letter = key < 0 ? -9 : due.letterOn(board, key / 10 * 10 + 9 - key % 10);
        return letter < 0 ? here : (char) ('a' + letter);
    }

    private void feed(String text) {
        String fed = pick(30) == 0 ? text + (char) pick(256) : text;
        if (pick(30) == 0 && !fed.isEmpty()) {
            int i = pick(fed.length());
            fed = fed.substring(0, i) + (char) (pick(3) == 0 ? pick(256) : letter()) + fed.substring(i + 1);
        }
        for (int from = 0; from < fed.length(); from += 8) {
            int n = Math.min(8, fed.length() - from);
            long bytes = Check.packed(fed.substring(from, from + n));
            same("feed", due.feed(n, bytes), x.feed(n, bytes));
        }
    }

    private void change() {
        switch (pick(13)) {
            case 0:
            case 1: {
                feed(boardText());
                int board = near(4);
                same("board " + board, due.board(board), x.board(board));
                break;
            }
            case 2:
            case 3:
                meant = word(pick(6) == 0 ? pick(44) : pick(14));
                feed(meant);
                same("text true", due.text(true), x.text(true));
                break;
            case 4:
            case 5:
            case 6:
            case 7:
                feed(slipped());
                same("text false", due.text(false), x.text(false));
                for (int board = 0; board < 4; board++) {
                    same("may after a slip", due.may(board), x.may(board));
                }
                break;
            case 8: {
                int from = pick(meant.length() + 1);
                String part = meant.substring(from, Math.min(meant.length(), from + 2 + pick(7)));
                feed(pick(3) == 0 ? word(pick(10)) : part);
                same("word", due.word(), x.word());
                break;
            }
            case 9: {
                int word = near(5);
                int n = pick(3) == 0 ? near(1000) : 1 + pick(4);
                same("practise " + word + " " + n, due.practise(word, n), x.practise(word, n));
                break;
            }
            case 10: {
                int hand = near(4);
                int law = near(6);
                int v = pick(2) == 0 ? near(1000) : 80 + pick(80);
                same("law " + hand + " " + law + " " + v, due.law(hand, law, v), x.law(hand, law, v));
                break;
            }
            case 11:
                changeRow();
                break;
            default:
                changeRarely();
                break;
        }
    }

    private void changeRow() {
        if (pick(2) == 0) {
            same("unput", due.unput(), x.unput());
        }
        int puts = pick(3) == 0 ? pick(44) : meant.length();
        for (int i = 0; i < puts; i++) {
            int v = pick(40) == 0 ? near(10000) : 80 + pick(100);
            same("put " + v, due.put(v), x.put(v));
        }
    }

    private void changeRarely() {
        switch (pick(4)) {
            case 0:
                same("image", due.image(), x.image());
                break;
            case 1:
                same("on", due.on(), x.on());
                break;
            case 2: {
                int n = near(10);
                long bytes = seed;
                same("feed " + n, due.feed(n, bytes), x.feed(n, bytes));
                break;
            }
            default: {
                int board = near(4);
                int a = near(30);
                int b = near(30);
                same("exchange", due.exchange(board, a, b), x.exchange(board, a, b));
                break;
            }
        }
    }

    private void ask(int[] told) {
        int board = near(4);
        int hand = near(4);
        int i = near(12);
        boolean yes = pick(2) == 0;
        switch (pick(16)) {
            case 0:
                same("keyOf", due.keyOf(board, 2 * i), x.keyOf(board, 2 * i));
                same("letterOn", due.letterOn(board, i), x.letterOn(board, i));
                break;
            case 1: {
                int to = near(30);
                same("fingerOf", due.fingerOf(to, yes), x.fingerOf(to, yes));
                same("gap", due.gap(hand, board, i, to), x.gap(hand, board, i, to));
                break;
            }
            case 2:
                same("sign", due.sign(yes, i), x.sign(yes, i));
                break;
            case 3: {
                int what = near(3);
                same("piece", due.piece(i, what), x.piece(i, what));
                same("pieces", due.pieces(), x.pieces());
                break;
            }
            case 4:
                same("time", due.time(hand, board, yes), x.time(hand, board, yes));
                break;
            case 5:
            case 6: {
                int bits = due.may(board);
                same("may", bits, x.may(board));
                if (bits >= 0) {
                    told[bits]++;
                }
                int kind = near(8);
                same("where " + kind, due.where(board, kind), x.where(board, kind));
                break;
            }
            case 7:
                if (pick(4) == 0) {
                    int n = near(7);
                    same("better", due.better(hand, board), x.better(hand, board));
                    same("climb " + n, due.climb(hand, board, n), x.climb(hand, board, n));
                }
                break;
            case 8: {
                int step = near(52);
                int gain = pick(2) == 0 ? 1 + pick(3) : near(52);
                int start = near(101);
                same("summer", due.summer(start, step, gain), x.summer(start, step, gain));
                break;
            }
            case 9:
                same("far", due.far(hand, board), x.far(hand, board));
                break;
            case 10:
                same("nearest", due.nearest(board), x.nearest(board));
                break;
            case 11: {
                int law = near(3);
                same("span", due.span(board, law, yes), x.span(board, law, yes));
                break;
            }
            case 12: {
                int finger = near(8);
                same("ache", due.ache(board, finger), x.ache(board, finger));
                break;
            }
            case 13: {
                int line = pick(8) == 0 ? near(1000) : 1 + pick(9);
                int rest = pick(8) == 0 ? near(1000) : pick(5);
                same("pauses " + line + " " + rest, due.pauses(board, line, rest), x.pauses(board, line, rest));
                break;
            }
            case 14: {
                int p = near(10);
                int mend = pick(2) == 0 ? near(10000) : pick(60);
                same("pace", due.pace(hand, board, p, mend), x.pace(hand, board, p, mend));
                same("soonest " + mend, due.soonest(hand, board, mend), x.soonest(hand, board, mend));
                break;
            }
            default: {
                int what = near(18);
                same("count " + what, due.count(what), x.count(what));
                break;
            }
        }
    }
}
