import java.util.ArrayList;
import java.util.Arrays;
import java.util.List;

/**
 * The document once more, told by texts and lists and by making all that a SLIP can make, without a thought of speed:
 * a second opinion for RunTests.
 */
final class Naive {
    private static final class Held {
        final String[] boards = {".".repeat(30), ".".repeat(30), ".".repeat(30), ".".repeat(30)};
        final int[][] laws = new int[4][];
        String meant = "";
        String written = "";
        final List<String> words = new ArrayList<>();
        final List<Integer> practised = new ArrayList<>();
        final List<Integer> row = new ArrayList<>();

        Held copy() {
            Held other = new Held();
            for (int i = 0; i < 4; i++) {
                other.boards[i] = boards[i];
                other.laws[i] = laws[i].clone();
            }
            other.meant = meant;
            other.written = written;
            other.words.addAll(words);
            other.practised.addAll(practised);
            other.row.addAll(row);
            return other;
        }
    }

    private Held held = new Held();
    private Held image = null;
    private String tape = "";
    private final int[] refused = new int[7];

    Naive() {
        for (int hand = 0; hand < 4; hand++) {
            held.laws[hand] = new int[] {100, 120, 90, 150, 20, 15};
        }
    }

    private int refuse(int number) {
        refused[-number]++;
        return number;
    }

    private static boolean in(int v, int least, int most) {
        return least <= v && v <= most;
    }

    int feed(int n, long bytes) {
        if (n < 1) {
            return refuse(-4);
        }
        if (n > 8 || tape.length() + n > 48) {
            return refuse(-6);
        }
        for (int i = 0; i < n; i++) {
            tape += (char) (bytes & 0xff);
            bytes >>= 8;
        }
        return tape.length();
    }

    int board(int board) {
        if (!in(board, 0, 3)) {
            return refuse(-1);
        }
        String text = tape;
        tape = "";
        for (int end = 0; end <= text.length(); end++) {
            if (!beginsBoard(text.substring(0, end))) {
                return -20 - (end - 1);
            }
        }
        if (text.length() < 32) {
            return -20 - text.length();
        }
        held.boards[board] = text.replace("/", "");
        return held.boards[board].replace(".", "").length();
    }

    private static boolean beginsBoard(String text) {
        String shape = "KKKKKKKKKK/KKKKKKKKKK/KKKKKKKKKK";
        if (text.length() > shape.length()) {
            return false;
        }
        for (int i = 0; i < text.length(); i++) {
            String sign = text.substring(i, i + 1);
            boolean fits = shape.charAt(i) == '/' ? sign.equals("/") : sign.matches("[a-z.]");
            if (!fits || (sign.matches("[a-z]") && text.indexOf(sign) < i)) {
                return false;
            }
        }
        return true;
    }

    private static int fault(String text, String allowed) {
        for (int i = 0; i < text.length(); i++) {
            if (!text.substring(i, i + 1).matches(allowed)) {
                return i;
            }
        }
        return -1;
    }

    int text(boolean meant) {
        if (tape.length() > 40) {
            return refuse(-6);
        }
        String text = tape;
        tape = "";
        int fault = fault(text, meant ? "[a-z]" : "[a-z<]");
        if (fault >= 0) {
            return -20 - fault;
        }
        if (meant) {
            held.meant = text;
        } else {
            held.written = text;
        }
        return text.length();
    }

    int word() {
        if (held.words.size() == 10) {
            return refuse(-6);
        }
        String text = tape;
        tape = "";
        int fault = fault(text, "[a-z]");
        if (fault >= 0) {
            return -20 - fault;
        }
        if (!in(text.length(), 2, 8)) {
            return refuse(-3);
        }
        held.words.add(text);
        held.practised.add(0);
        return held.words.size() - 1;
    }

    private static int orNone(int place) {
        return place < 0 ? -9 : place;
    }

    private int keyOf(int board, char letter) {
        return held.boards[board].indexOf(letter);
    }

    int keyOf(int board, int letter) {
        if (!in(board, 0, 3) || !in(letter, 0, 25)) {
            return refuse(-1);
        }
        return orNone(keyOf(board, (char) ('a' + letter)));
    }

    int letterOn(int board, int key) {
        if (!in(board, 0, 3) || !in(key, 0, 29)) {
            return refuse(-1);
        }
        return orNone("abcdefghijklmnopqrstuvwxyz".indexOf(held.boards[board].charAt(key)));
    }

    private static int finger(int key, boolean two) {
        return (two ? "0000044444" : "0123344567").charAt(key % 10) - '0';
    }

    int fingerOf(int key, boolean two) {
        return in(key, 0, 29) ? finger(key, two) : refuse(-1);
    }

    int law(int hand, int law, int v) {
        if (!in(hand, 0, 3) || !in(law, 0, 5)) {
            return refuse(-1);
        }
        if (!in(v, 0, 999)) {
            return refuse(v < 0 ? -4 : -6);
        }
        int was = held.laws[hand][law];
        held.laws[hand][law] = v;
        return was;
    }

    private int gapOf(int hand, int from, int to, boolean two) {
        int[] laws = held.laws[hand];
        int lines = Math.abs(from / 10 - to / 10);
        int columns = Math.abs(from % 10 - to % 10);
        if (from == to) {
            return laws[2];
        }
        if (finger(from, two) == finger(to, two)) {
            return laws[3] + laws[4] * (lines + columns);
        }
        boolean oneHalf = finger(from, two) / 4 == finger(to, two) / 4;
        return oneHalf ? laws[1] + laws[5] * lines : laws[0];
    }

    int gap(int hand, int board, int from, int to) {
        if (!in(hand, 0, 3) || !in(board, 0, 3) || !in(from, 0, 29) || !in(to, 0, 29)) {
            return refuse(-1);
        }
        return gapOf(hand, from, to, false);
    }

    int sign(boolean meant, int i) {
        String text = meant ? held.meant : held.written;
        return in(i, 0, text.length() - 1) ? "abcdefghijklmnopqrstuvwxyz<".indexOf(text.charAt(i)) : -9;
    }

    int practise(int word, int n) {
        if (!in(word, 0, held.words.size() - 1)) {
            return refuse(-1);
        }
        if (!in(n, 1, 999)) {
            return refuse(n < 1 ? -4 : -6);
        }
        held.practised.set(word, Math.min(9999, held.practised.get(word) + n));
        return held.practised.get(word);
    }

    /** Each PIECE: where it begins, how many letters, its WORD. */
    private List<int[]> cut() {
        List<int[]> pieces = new ArrayList<>();
        int at = 0;
        while (at < held.meant.length()) {
            int[] piece = {at, 1, -9};
            for (int word = held.words.size() - 1; word >= 0; word--) {
                String letters = held.words.get(word);
                if (held.practised.get(word) >= 3 && held.meant.startsWith(letters, at)
                    && letters.length() >= piece[1]) {
                    piece = new int[] {at, letters.length(), word};
                }
            }
            pieces.add(piece);
            at += piece[1];
        }
        return pieces;
    }

    int piece(int i, int what) {
        if (!in(what, 0, 2)) {
            return refuse(-2);
        }
        List<int[]> pieces = cut();
        return in(i, 0, pieces.size() - 1) ? pieces.get(i)[what] : -9;
    }

    int pieces() {
        return cut().size();
    }

    private int gapAt(int hand, int board, int i, boolean two) {
        int to = keyOf(board, held.meant.charAt(i));
        int from = i == 0 ? -1 : keyOf(board, held.meant.charAt(i - 1));
        if (to < 0) {
            return 999;
        }
        return from < 0 ? held.laws[hand][0] : gapOf(hand, from, to, two);
    }

    private int timeOf(int hand, int board, boolean two) {
        int sum = 0;
        for (int[] piece : cut()) {
            sum += gapAt(hand, board, piece[0], two);
            for (int i = 1; i < piece[1]; i++) {
                int hundredths = 100 - 5 * Math.min(10, held.practised.get(piece[2]));
                sum += gapAt(hand, board, piece[0] + i, two) * hundredths / 100;
            }
        }
        return sum;
    }

    private boolean noHandOrBoard(int hand, int board) {
        return !in(hand, 0, 3) || !in(board, 0, 3);
    }

    int time(int hand, int board, boolean two) {
        return noHandOrBoard(hand, board) ? refuse(-1) : timeOf(hand, board, two);
    }

    private boolean told(int kind, int board, int i) {
        String m = held.meant;
        String w = held.written;
        String head = m.substring(0, i);
        String tail = m.substring(i + 1);
        switch (kind) {
            case 1:
                return i + 1 < m.length() && m.charAt(i) != m.charAt(i + 1)
                    && w.equals(head + m.charAt(i + 1) + m.charAt(i) + m.substring(i + 2));
            case 2:
                return i + 2 < m.length() && doubled(m.substring(i, i + 3)) != null
                    && w.equals(head + doubled(m.substring(i, i + 3)) + m.substring(i + 3));
            case 6:
                return w.equals(head + tail);
            default:
                break;
        }
        for (char letter = 'a'; letter <= 'z'; letter++) {
            if (letter != m.charAt(i)) {
                if (kind == 7 && w.equals(head + letter + "<" + m.charAt(i) + tail)) {
                    return true;
                }
                if (kind != 7 && w.equals(head + letter + tail)) {
                    return kind == 0 || slipIs(kind, board, i, letter);
                }
            }
        }
        return false;
    }

    private static String doubled(String three) {
        String a = three.substring(1, 2);
        if (three.startsWith(a + a) && !three.endsWith(a)) {
            return a + three.charAt(2) + three.charAt(2);
        }
        if (three.endsWith(a + a) && !three.startsWith(a)) {
            return "" + three.charAt(0) + three.charAt(0) + a;
        }
        return null;
    }

    private boolean slipIs(int kind, int board, int i, char letter) {
        if (kind == 5) {
            return held.meant.substring(i + 1, Math.min(i + 3, held.meant.length())).indexOf(letter) >= 0;
        }
        int key = keyOf(board, held.meant.charAt(i));
        int slip = keyOf(board, letter);
        if (key < 0 || slip < 0) {
            return false;
        }
        if (kind == 3) {
            return slip == key / 10 * 10 + 9 - key % 10;
        }
        return slip == key + 10 || slip == key - 10 || (slip == key + 1 && key % 10 < 9)
            || (slip == key - 1 && key % 10 > 0);
    }

    private int firstTold(int kind, int board) {
        for (int i = 0; i < held.meant.length(); i++) {
            if (told(kind, board, i)) {
                return i;
            }
        }
        return -9;
    }

    int may(int board) {
        if (!in(board, 0, 3)) {
            return refuse(-1);
        }
        int bits = 0;
        for (int kind = 0; kind < 8; kind++) {
            bits += firstTold(kind, board) >= 0 ? 1 << kind : 0;
        }
        return bits;
    }

    int where(int board, int kind) {
        if (!in(board, 0, 3)) {
            return refuse(-1);
        }
        return in(kind, 0, 7) ? firstTold(kind, board) : refuse(-2);
    }

    private void change(int board, int a, int b) {
        StringBuilder text = new StringBuilder(held.boards[board]);
        text.setCharAt(a, held.boards[board].charAt(b));
        text.setCharAt(b, held.boards[board].charAt(a));
        held.boards[board] = text.toString();
    }

    int exchange(int board, int a, int b) {
        if (!in(board, 0, 3) || !in(a, 0, 29) || !in(b, 0, 29) || a == b) {
            return refuse(-1);
        }
        change(board, a, b);
        return 1;
    }

    private int betterOf(int hand, int board) {
        String was = held.boards[board];
        int now = timeOf(hand, board, false);
        int least = now;
        int best = -9;
        for (int a = 0; a < 30; a++) {
            for (int b = a + 1; b < 30; b++) {
                change(board, a, b);
                int time = timeOf(hand, board, false);
                held.boards[board] = was;
                if (time < least) {
                    least = time;
                    best = a * 100 + b;
                }
            }
        }
        return best;
    }

    int better(int hand, int board) {
        return noHandOrBoard(hand, board) ? refuse(-1) : betterOf(hand, board);
    }

    int climb(int hand, int board, int n) {
        if (noHandOrBoard(hand, board)) {
            return refuse(-1);
        }
        if (!in(n, 1, 5)) {
            return refuse(n < 1 ? -4 : -6);
        }
        int made = 0;
        int best = betterOf(hand, board);
        while (made < n && best != -9) {
            change(board, best / 100, best % 100);
            made++;
            best = betterOf(hand, board);
        }
        return made;
    }

    int summer(int start, int step, int gain) {
        if (start < 0 || step < 1 || gain < 1) {
            return refuse(-4);
        }
        if (start > 99 || step > 50 || gain > 50) {
            return refuse(-6);
        }
        int other = 0;
        int old = 0;
        for (int day = 0; day <= 998; day++) {
            other += Math.min(100 + gain, start + day * step);
            old += 100;
            if (other >= old) {
                return day;
            }
        }
        return -9;
    }

    int put(int v) {
        if (v < 0) {
            return refuse(-4);
        }
        if (v > 9999 || held.row.size() == 40) {
            return refuse(-6);
        }
        held.row.add(v);
        return held.row.size();
    }

    int unput() {
        int had = held.row.size();
        held.row.clear();
        return had;
    }

    private int farOf(int hand, int board) {
        int sum = 0;
        for (int i = 0; i < Math.min(held.row.size(), held.meant.length()); i++) {
            sum += Math.abs(held.row.get(i) - gapAt(hand, board, i, false));
        }
        return sum;
    }

    int far(int hand, int board) {
        return noHandOrBoard(hand, board) ? refuse(-1) : farOf(hand, board);
    }

    int nearest(int board) {
        if (!in(board, 0, 3)) {
            return refuse(-1);
        }
        if (held.row.size() != held.meant.length()) {
            return -9;
        }
        int[] fars = new int[4];
        for (int hand = 0; hand < 4; hand++) {
            fars[hand] = farOf(hand, board);
        }
        int[] sorted = fars.clone();
        Arrays.sort(sorted);
        for (int hand = 0; hand < 4; hand++) {
            if (fars[hand] == sorted[0] && sorted[0] != sorted[1]) {
                return hand;
            }
        }
        return -9;
    }

    int span(int board, int law, boolean greatest) {
        if (!in(board, 0, 3)) {
            return refuse(-1);
        }
        if (!in(law, 0, 2)) {
            return refuse(-2);
        }
        List<Integer> found = new ArrayList<>();
        for (int i = 1; i < Math.min(held.row.size(), held.meant.length()); i++) {
            int from = keyOf(board, held.meant.charAt(i - 1));
            int to = keyOf(board, held.meant.charAt(i));
            if (from >= 0 && to >= 0 && lawOf(from, to) == law) {
                found.add(held.row.get(i));
            }
        }
        found.sort(null);
        return found.isEmpty() ? -9 : found.get(greatest ? found.size() - 1 : 0);
    }

    /** The LAW that a SPAN tells of, or -1. */
    private static int lawOf(int from, int to) {
        if (from == to) {
            return 2;
        }
        if (finger(from, true) != finger(to, true)) {
            return 0;
        }
        return finger(from, false) != finger(to, false) && from / 10 == to / 10 ? 1 : -1;
    }

    private int acheAt(int board, int i) {
        int key = keyOf(board, held.meant.charAt(i));
        if (key < 0) {
            return 0;
        }
        int ahead = i == 0 ? -1 : keyOf(board, held.meant.charAt(i - 1));
        return ahead >= 0 && ahead != key && finger(ahead, false) == finger(key, false) ? 3 : 1;
    }

    int ache(int board, int finger) {
        if (!in(board, 0, 3) || !in(finger, 0, 7)) {
            return refuse(-1);
        }
        int sum = 0;
        for (int i = 0; i < held.meant.length(); i++) {
            int key = keyOf(board, held.meant.charAt(i));
            sum += key >= 0 && finger(key, false) == finger ? acheAt(board, i) : 0;
        }
        return sum;
    }

    int pauses(int board, int line, int rest) {
        if (!in(board, 0, 3)) {
            return refuse(-1);
        }
        if (line < 1 || rest < 0) {
            return refuse(-4);
        }
        if (line > 999 || rest > 999) {
            return refuse(-6);
        }
        int sum = 0;
        int pauses = 0;
        for (int i = 0; i < held.meant.length(); i++) {
            int ache = acheAt(board, i);
            if (ache > line) {
                return -9;
            }
            while (sum + ache > line) {
                if (rest == 0) {
                    return -9;
                }
                sum = Math.max(0, sum - rest);
                pauses++;
            }
            sum += ache;
        }
        return pauses;
    }

    private int allOf(int hand, int board, int p, int mend) {
        int letters = held.meant.length();
        return timeOf(hand, board, false) * 10 / (10 + p) + letters * p * p / 100 * mend;
    }

    int pace(int hand, int board, int p, int mend) {
        if (noHandOrBoard(hand, board)) {
            return refuse(-1);
        }
        if (p < 1 || mend < 0) {
            return refuse(-4);
        }
        return p > 9 || mend > 9999 ? refuse(-6) : allOf(hand, board, p, mend);
    }

    int soonest(int hand, int board, int mend) {
        if (noHandOrBoard(hand, board)) {
            return refuse(-1);
        }
        if (!in(mend, 0, 9999)) {
            return refuse(mend < 0 ? -4 : -6);
        }
        int best = 9;
        for (int p = 8; p >= 1; p--) {
            best = allOf(hand, board, p, mend) <= allOf(hand, board, best, mend) ? p : best;
        }
        return best;
    }

    int image() {
        image = held.copy();
        return held.words.size();
    }

    int on() {
        if (image == null) {
            return refuse(-3);
        }
        held = image.copy();
        return held.words.size();
    }

    int count(int what) {
        if (in(what, 11, 16)) {
            return refused[what - 10];
        }
        int[] counts = {held.meant.length(), held.written.length(), held.words.size(), held.row.size(), tape.length()};
        return in(what, 0, 4) ? counts[what] : -9;
    }
}
