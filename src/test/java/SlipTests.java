/**
 * SLIPS by KINDS: each sentence of theirs by texts that just are of a KIND and texts that just are not. Each part is
 * named by the words of the sentence.
 */
public final class SlipTests {
    private static final String QWERTY = "qwertyuiop/asdfghjkl./zxcvbnm...";
    private static final int SLIP = 1;
    private static final int SWAPPED = 2;
    private static final int DOUBLED = 4;
    private static final int MIRRORED = 8;
    private static final int NEAR = 16;
    private static final int EARLY = 32;
    private static final int LOST = 64;
    private static final int CAUGHT = 128;
    private static final Check CHECK = new Check("SlipTests");

    public static void main(String[] args) {
        noSlip();
        slip();
        swapped();
        doubled();
        mirroredAndNear();
        onNoKey();
        early();
        lost();
        caught();
        takenBackInOthers();
        justOne();
        longest();
        CHECK.end();
    }

    private static void due(String call, long want, long got) {
        CHECK.due(call, want, got);
    }

    /** On an empty BOARD: no KIND that looks at KEYS. WHERE of each KIND is due to fit MAY. */
    private static TenFingers told(String meant, String written, int want) {
        TenFingers x = new TenFingers();
        Check.meant(x, meant);
        Check.written(x, written);
        due("may of " + meant + ": " + written, want, x.may(0));
        for (int kind = 0; kind < 8; kind++) {
            int place = x.where(0, kind);
            due("where " + kind + " is as may, of " + meant + ": " + written, want >> kind & 1, place >= 0 ? 1 : 0);
            due("where " + kind + " is -9 or a place", 1, place == -9 || place >= 0 && place < 40 ? 1 : 0);
        }
        return x;
    }

    private static void told(String meant, String written, int want, int kind, int place) {
        due("where " + kind + " of " + meant + ": " + written, place, told(meant, written, want).where(0, kind));
    }

    private static void noSlip() {
        CHECK.part("WRITTEN is MEANT but for just one");
        told("", "", 0);
        told("a", "a", 0);
        told("abcd", "abcd", 0);
        told("abcd", "", 0);
        told("", "a", 0);
        told("", "<", 0);
        told("", "a<", 0);
        told("ab", "abc", 0);
        told("ab", "cab", 0);
        told("ab", "ab<", 0);
        told("ab", "abab", 0);
        due("a new object", 0, new TenFingers().may(3));
    }

    private static void slip() {
        CHECK.part("0 SLIP: one letter is another letter");
        told("abcd", "xbcd", SLIP, 0, 0);
        told("abcd", "abxd", SLIP, 0, 2);
        told("abcd", "abcx", SLIP, 0, 3);
        told("a", "z", SLIP, 0, 0);
        told("aaaa", "aaba", SLIP, 0, 2);
        told("abcd", "xbxd", 0);
        told("abcd", "xxcd", 0);
        told("abcd", "xbcx", 0);
        told("abcd", "abcdx", 0);
        told("abcd", "abxdx", 0);
        told("abcd", "xabcd", 0);
    }

    private static void swapped() {
        CHECK.part("1 SWAPPED: two letters beside each other (unlike) have changed places");
        told("abcd", "bacd", SWAPPED, 1, 0);
        told("abcd", "acbd", SWAPPED, 1, 1);
        told("abcd", "abdc", SWAPPED, 1, 2);
        told("ab", "ba", SWAPPED, 1, 0);
        told("aab", "aba", SWAPPED, 1, 1);
        told("aa", "aa", 0);
        told("abcd", "cbad", 0);
        told("abcd", "badc", 0);
        told("abcd", "bcad", 0);
        told("abcd", "bac", 0);
        told("abcd", "bacdd", 0);
        told("abcd", "bacx", 0);
        told("ab", "b", LOST);
        told("abab", "baba", 0);
    }

    private static void doubled() {
        CHECK.part("2 DOUBLED: b is twice in a row there, and the letter once (aab: abb; baa: bba)");
        told("aab", "abb", SLIP + DOUBLED + EARLY, 2, 0);
        told("baa", "bba", SLIP + DOUBLED, 2, 0);
        told("xaab", "xabb", SLIP + DOUBLED + EARLY, 2, 1);
        told("aabx", "abbx", SLIP + DOUBLED + EARLY, 2, 0);
        told("xbaa", "xbba", SLIP + DOUBLED, 2, 1);
        told("baax", "bbax", SLIP + DOUBLED, 2, 0);
        told("aab", "aba", SWAPPED);
        told("aab", "bab", SLIP + EARLY);
        told("aab", "aaa", SLIP);
        told("aab", "bba", 0);
        told("aab", "acb", SLIP);
        told("baa", "bab", SLIP);
        told("baa", "aba", SWAPPED);
        told("baa", "bca", SLIP);
        told("baa", "aaa", SLIP + EARLY);
        told("aaa", "aba", SLIP);
        told("aaa", "abb", 0);
        told("aabc", "accc", 0);
        told("aabc", "acbc", SLIP + EARLY);
        told("aabcc", "axbcc", SLIP);
        told("aabc", "abbb", 0);
        told("abac", "abbc", SLIP);
        told("aa", "ab", SLIP);
        told("aa", "ba", SLIP);
        CHECK.part("WHERE: of DOUBLED the first of its three letters");
        told("baab", "bbab", SLIP + DOUBLED + EARLY, 2, 0);
        told("baab", "babb", SLIP + DOUBLED + EARLY, 2, 1);
        told("aaba", "abba", SLIP + DOUBLED + EARLY, 2, 0);
        told("abaa", "abba", SLIP + DOUBLED, 2, 1);
        told("aaab", "aabb", SLIP + DOUBLED + EARLY, 2, 1);
        told("baaa", "bbaa", SLIP + DOUBLED, 2, 0);
    }

    private static void mirroredAndNear() {
        for (int meant = 0; meant < 30; meant++) {
            for (int other = 0; other < 30; other++) {
                if (meant != other) {
                    dueOfKeys(meant, other);
                }
            }
        }
        CHECK.part("3 MIRRORED under SLIP");
        TenFingers x = new TenFingers();
        Check.board(x, 1, TermsTests.lay(0, 9));
        Check.meant(x, "ca");
        Check.written(x, "cb");
        due("mirrored at the end", SLIP + MIRRORED, x.may(1));
        due("its place", 1, x.where(1, 3));
        Check.written(x, "db");
        due("two slips", 0, x.may(1));
        due("no place", -9, x.where(1, 3));
        CHECK.part("4 NEAR under SLIP");
        Check.board(x, 1, TermsTests.lay(9, 19));
        Check.written(x, "cb");
        due("near at the end", SLIP + NEAR, x.may(1));
        due("its place", 1, x.where(1, 4));
        Check.written(x, "db");
        due("two slips", 0, x.may(1));
        due("no place", -9, x.where(1, 4));
        Check.meant(x, "ab");
        Check.written(x, "ba");
        due("swapped is no slip", SWAPPED, x.may(1));
    }

    /** The letter a is on one KEY, b on another one: b for a is as the KEYS are. */
    private static void dueOfKeys(int meant, int other) {
        int board = meant % 4;
        TenFingers x = new TenFingers();
        Check.board(x, board, TermsTests.lay(meant, other));
        Check.meant(x, "ac");
        Check.written(x, "bc");
        int line = meant / 10;
        boolean mirrored = other == 10 * line + 9 - meant % 10;
        int lines = Math.abs(line - other / 10);
        int columns = Math.abs(meant % 10 - other % 10);
        boolean near = lines == 0 && columns == 1 || lines == 1 && columns == 0;
        CHECK.part("3 MIRRORED: its KEY is that of the same LINE with COLUMN 9 less that of the one meant");
        due("mirrored " + meant + " " + other, mirrored ? 0 : -9, x.where(board, 3));
        CHECK.part("4 NEAR: its KEY is beside (by a side) that of the one meant");
        due("near " + meant + " " + other, near ? 0 : -9, x.where(board, 4));
        due("may " + meant + " " + other, SLIP + (mirrored ? MIRRORED : 0) + (near ? NEAR : 0), x.may(board));
        due("on another board", SLIP, x.may((board + 1) % 4));
    }

    private static void onNoKey() {
        CHECK.part("MIRRORED, NEAR: its KEY");
        TenFingers x = new TenFingers();
        Check.board(x, 0, TermsTests.lay(0));
        Check.meant(x, "a");
        Check.written(x, "b");
        due("written is on no key", SLIP, x.may(0));
        Check.meant(x, "b");
        Check.written(x, "a");
        due("meant is on no key", SLIP, x.may(0));
        Check.meant(x, "c");
        Check.written(x, "d");
        due("both are on no key", SLIP, x.may(0));
    }

    private static void early() {
        CHECK.part("5 EARLY under SLIP: it is the letter one or two places later in MEANT");
        told("abcd", "bbcd", SLIP + EARLY, 5, 0);
        told("abcd", "cbcd", SLIP + EARLY, 5, 0);
        told("abcd", "dbcd", SLIP, 5, -9);
        told("abcd", "accd", SLIP + EARLY, 5, 1);
        told("abcd", "adcd", SLIP + EARLY, 5, 1);
        told("abcd", "abdd", SLIP + EARLY, 5, 2);
        told("abcd", "abcc", SLIP, 5, -9);
        told("abcd", "aacd", SLIP, 5, -9);
        told("abcd", "abad", SLIP, 5, -9);
        told("abcd", "bcbd", 0, 5, -9);
    }

    private static void lost() {
        CHECK.part("6 LOST: one letter is not there");
        told("abcd", "bcd", LOST, 6, 0);
        told("abcd", "acd", LOST, 6, 1);
        told("abcd", "abc", LOST, 6, 3);
        told("a", "", LOST, 6, 0);
        told("abcd", "ab", 0);
        told("abcd", "cd", 0);
        told("abcd", "ad", 0);
        told("abcd", "acb", 0);
        told("abcd", "xcd", 0);
        told("ab", "", 0);
        told("ab", "c", 0);
        CHECK.part("WHERE: the first place (in MEANT)");
        told("aab", "ab", LOST, 6, 0);
        told("baa", "ba", LOST, 6, 1);
        told("baab", "bab", LOST, 6, 1);
        told("baaab", "baab", LOST, 6, 1);
        told("abab", "aab", LOST, 6, 1);
        told("abab", "abb", LOST, 6, 2);
        told("a".repeat(40), "a".repeat(39), LOST, 6, 0);
    }

    private static void caught() {
        CHECK.part("7 CAUGHT: a letter other than the one meant, and \"<\", stand ahead of it");
        told("abc", "x<abc", CAUGHT, 7, 0);
        told("abc", "abx<c", CAUGHT, 7, 2);
        told("abc", "aa<bc", CAUGHT, 7, 1);
        told("abc", "ac<bc", CAUGHT, 7, 1);
        told("a", "b<a", CAUGHT, 7, 0);
        told("aab", "aab<b", 0);
        told("abc", "ab<bc", 0);
        told("abc", "abc<c", 0);
        told("abc", "a<abc", 0);
        told("abc", "abcx<", 0);
        told("abc", "abc<", 0);
        told("abc", "<abc", 0);
        told("abc", "<x<abc", 0);
        told("abc", "<<abc", 0);
        told("abc", "x<<abc", 0);
        told("abc", "xy<<abc", 0);
        told("abc", "x<ay<bc", 0);
        told("abc", "x<abx", 0);
        told("abc", "x<bc", 0);
        told("abc", "x<ac", 0);
        told("abc", "x<ab", 0);
        told("abc", "x<acb", 0);
        told("abc", "xa<bc", 0);
        told("abc", "ax<bcc", 0);
    }

    private static void takenBackInOthers() {
        CHECK.part("(In all others no \"<\" stands.)");
        told("abc", "a<c", 0);
        told("abc", "<bc", 0);
        told("abc", "ab<", 0);
        told("a", "<", 0);
        told("aab", "a<b", 0);
        told("abcd", "ab<", 0);
        told("abcd", "bacd<", 0);
        told("abcd", "acb<", 0);
        told("abcd", "x<cd", 0);
    }

    private static void justOne() {
        CHECK.part("WRITTEN is MEANT but for just one of them");
        told("abcdef", "bacdfe", 0);
        told("abcdef", "xbcde", 0);
        told("abcdef", "bacdex", 0);
        told("abcdef", "bacde", 0);
        told("abcdef", "x<abcdex", 0);
        told("abcdef", "x<abcde", 0);
        told("abcdef", "x<bacdef", 0);
        told("aabb", "abbb", SLIP + DOUBLED + EARLY, 2, 0);
        told("aabbaa", "abbbba", 0);
        CHECK.part("MAY: the KINDS as which WRITTEN can be told (bits)");
        TenFingers x = new TenFingers();
        Check.board(x, 0, QWERTY);
        Check.meant(x, "hgg");
        Check.written(x, "hhg");
        due("all of SLIP but EARLY", SLIP + DOUBLED + MIRRORED + NEAR, x.may(0));
        Check.meant(x, "ggh");
        Check.written(x, "ghh");
        due("all of SLIP", SLIP + DOUBLED + MIRRORED + NEAR + EARLY, x.may(0));
        due("its three letters", 0, x.where(0, 2));
        for (int kind : new int[] {0, 3, 4, 5}) {
            due("the letter", 1, x.where(0, kind));
        }
        Check.board(x, 0, TermsTests.lay(0));
        due("by the board as it is now", SLIP + DOUBLED + EARLY, x.may(0));
    }

    private static void longest() {
        CHECK.part("TEXTS of 40");
        String head = "abc".repeat(13);
        told(head + "a", head + "x", SLIP, 0, 39);
        told(head + "a", head.substring(0, 38) + "ac", SWAPPED, 1, 38);
        told(head + "a", head, LOST, 6, 39);
        told(head + "b", head + "c", SLIP, 5, -9);
        told(head + "a", head.substring(0, 38) + "aa", SLIP + EARLY, 5, 38);
        told(head.substring(0, 38), head.substring(0, 37) + "x<" + head.charAt(37), CAUGHT, 7, 37);
        told(head + "a", "x<" + head.substring(0, 38), 0);
        told(head.substring(0, 37) + "aab", head.substring(0, 37) + "abb", SLIP + DOUBLED + EARLY, 2, 37);
    }
}
