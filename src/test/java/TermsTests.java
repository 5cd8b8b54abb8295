/**
 * The document's Terms, sentence by sentence: for each that names a boundary, calls just inside and just outside it.
 * Each part is named by the words of the sentence.
 */
public final class TermsTests {
    private static final String QWERTY = "qwertyuiop/asdfghjkl./zxcvbnm...";
    private static final String EMPTY = "........../........../..........";
    private static final String FINGERS = "0123344567";
    private static final Check CHECK = new Check("TermsTests");

    public static void main(String[] args) {
        boards();
        boardLetters();
        boardFaults();
        boardSigns();
        fingers();
        laws();
        gaps();
        gapOfTwoFingers();
        gapLimits();
        gapsOfTexts();
        texts();
        textSigns();
        words();
        pieces();
        practisedThree();
        timeOfPieces();
        CHECK.end();
    }

    private static void due(String call, long want, long got) {
        CHECK.due(call, want, got);
    }

    private static TenFingers with(String board, String meant) {
        TenFingers x = new TenFingers();
        Check.board(x, 0, board);
        Check.meant(x, meant);
        return x;
    }

    /** A BOARD of letters on these KEYS alone, a on the first of them. */
    static String lay(int... keys) {
        StringBuilder text = new StringBuilder(EMPTY);
        for (int i = 0; i < keys.length; i++) {
            text.setCharAt(keys[i] + keys[i] / 10, (char) ('a' + i));
        }
        return text.toString();
    }

    private static void boards() {
        CHECK.part("KEYS 0 .. 29: LINES 0 .. 2 of ten COLUMNS 0 .. 9 (KEY 10 times LINE and COLUMN)");
        for (int key = 0; key < 30; key++) {
            TenFingers x = new TenFingers();
            due("one letter on " + key, 1, Check.board(x, 2, lay(key)));
            due("keyOf", key, x.keyOf(2, 0));
            for (int other = 0; other < 30; other++) {
                due("letterOn " + other, other == key ? 0 : -9, x.letterOn(2, other));
            }
        }
        CHECK.part("BOARDS have numbers 0 .. 3; they are empty at first");
        TenFingers x = new TenFingers();
        Check.board(x, 3, QWERTY);
        for (int board = 0; board < 4; board++) {
            for (int letter = 0; letter < 26; letter++) {
                due("board " + board + " is one of its own", board == 3, x.keyOf(board, letter) >= 0);
            }
        }
        Check.feed(x, QWERTY);
        due("board 4", -1, x.board(4));
        due("board 0", 26, x.board(0));
    }

    private static void due(String call, boolean want, boolean got) {
        CHECK.due(call, want ? 1 : 0, got ? 1 : 0);
    }

    private static void boardLetters() {
        CHECK.part("a letter that did not come yet");
        for (int letter = 0; letter < 26; letter++) {
            String once = EMPTY.replaceFirst("\\.", "" + (char) ('a' + letter));
            due("once", 1, Check.board(new TenFingers(), 0, once));
            for (int place = 1; place < 32; place++) {
                if (place != 10 && place != 21) {
                    String twice = once.substring(0, place) + once.charAt(0) + once.substring(place + 1);
                    due("twice, at " + place, -20 - place, Check.board(new TenFingers(), 0, twice));
                }
            }
        }
        CHECK.part("each letter on one KEY at most");
        due("it came at the board of before", 2, Check.board(readTwice(), 0, lay(3, 4)));
        due("it is on another board", 26, Check.board(readTwice(), 1, QWERTY));
        CHECK.part("each with a letter a .. z or none");
        due("26 letters and 4 keys of none", 26,
            Check.board(new TenFingers(), 0, "abcdefghij/klmnopqrst/uvwxyz...."));
        due("none at all", 0, Check.board(new TenFingers(), 0, EMPTY));
        due("none at all, anew", 0, Check.board(readTwice(), 0, EMPTY));
    }

    private static TenFingers readTwice() {
        TenFingers x = new TenFingers();
        Check.board(x, 0, QWERTY);
        Check.board(x, 0, QWERTY);
        return x;
    }

    private static void boardFaults() {
        CHECK.part("FAULT: the place of the first byte that can not stand (the end, if something lacks)");
        for (int length = 0; length < 32; length++) {
            due(length + " bytes", -20 - length, Check.board(new TenFingers(), 0, QWERTY.substring(0, length)));
        }
        due("32 bytes", 26, Check.board(new TenFingers(), 0, QWERTY));
        for (int length = 33; length <= 48; length++) {
            String more = QWERTY + "./a/................".substring(0, length - 32);
            due(length + " bytes", -20 - 32, Check.board(new TenFingers(), 0, more));
        }
        for (int place = 0; place < 32; place++) {
            String wrong = QWERTY.substring(0, place) + "!" + QWERTY.substring(place + 1);
            due("! at " + place, -20 - place, Check.board(new TenFingers(), 0, wrong));
            due("! at " + place + " and the end", -20 - place,
                Check.board(new TenFingers(), 0, wrong.substring(0, place + 1)));
            String two = wrong.substring(0, 31) + "!!!";
            due("! at " + place + " and later", -20 - place, Check.board(new TenFingers(), 0, two));
        }
    }

    private static void boardSigns() {
        CHECK.part("three LINES of ten signs, \"/\" between");
        for (int place : new int[] {0, 9, 10, 11, 20, 21, 22, 31}) {
            boolean between = place == 10 || place == 21;
            for (int sign = 0; sign < 256; sign++) {
                String text = EMPTY.substring(0, place) + (char) sign + EMPTY.substring(place + 1);
                boolean letter = sign >= 97 && sign <= 122;
                boolean stands = between ? sign == 47 : letter || sign == 46;
                int want = stands ? (letter ? 1 : 0) : -20 - place;
                due("sign " + sign + " at " + place, want, Check.board(new TenFingers(), 0, text));
            }
        }
    }

    private static void fingers() {
        CHECK.part("FINGERS 0 .. 7 by COLUMNS 0, 1, 2, 3 and 4, 5 and 6, 7, 8, 9");
        TenFingers x = new TenFingers();
        for (int key = 0; key < 30; key++) {
            due("key " + key, FINGERS.charAt(key % 10) - '0', x.fingerOf(key, false));
        }
        CHECK.part("With TWO: FINGER 0 has COLUMNS 0 .. 4, FINGER 4 the others");
        for (int line = 0; line < 3; line++) {
            due("column 0", 0, x.fingerOf(10 * line, true));
            due("column 4", 0, x.fingerOf(10 * line + 4, true));
            due("column 5", 4, x.fingerOf(10 * line + 5, true));
            due("column 9", 4, x.fingerOf(10 * line + 9, true));
        }
    }

    private static void laws() {
        CHECK.part("HANDS 0 .. 3 have LAWS (0 .. 999 each) (100, 120, 90, 150, 20, 15 at first)");
        int[] first = {100, 120, 90, 150, 20, 15};
        for (int hand = 0; hand < 4; hand++) {
            for (int law = 0; law < 6; law++) {
                TenFingers x = new TenFingers();
                due("below", -4, x.law(hand, law, -1));
                due("above", -6, x.law(hand, law, 1000));
                due("at first", first[law], x.law(hand, law, 999));
                due("the greatest", 999, x.law(hand, law, 0));
                due("the least", 0, x.law(hand, law, 1));
                for (int other = 0; other < 24; other++) {
                    int want = other == 6 * hand + law ? 1 : first[other % 6];
                    due("the other laws stay", want, x.law(other / 6, other % 6, 7));
                }
            }
        }
    }

    /** ALT 1, SAME 2, DOUBLE 3, FINGER 40, STEP 500, LINE 60: each sum of them tells what it is made of. */
    private static TenFingers lawful(int hand) {
        TenFingers x = new TenFingers();
        int[] laws = {1, 2, 3, 40, 500, 60};
        for (int law = 0; law < 6; law++) {
            x.law(hand, law, laws[law]);
        }
        return x;
    }

    private static int gapBy(String fingers, int from, int to) {
        int lines = Math.abs(from / 10 - to / 10);
        int columns = Math.abs(from % 10 - to % 10);
        char one = fingers.charAt(from % 10);
        char other = fingers.charAt(to % 10);
        if (from == to) {
            return 3;
        }
        if (one == other) {
            return 40 + 500 * (columns + lines);
        }
        return (one < '4') == (other < '4') ? 2 + 60 * lines : 1;
    }

    private static void gaps() {
        CHECK.part("GAP from a KEY to another one");
        for (int from = 0; from < 30; from++) {
            TenFingers x = lawful(from % 4);
            for (int to = 0; to < 30; to++) {
                due("gap " + from + " " + to, gapBy(FINGERS, from, to), x.gap(from % 4, to % 4, from, to));
            }
        }
        CHECK.part("... of columns 3, 4, 5, 6, by first LAWS");
        TenFingers x = new TenFingers();
        due("3 and 4 are one finger", 170, x.gap(0, 0, 3, 4));
        due("2 and 3 are two", 120, x.gap(0, 0, 2, 3));
        due("5 and 6 are one finger", 170, x.gap(0, 0, 6, 5));
        due("6 and 7 are two", 120, x.gap(0, 0, 6, 7));
        due("4 and 5 are two halves", 100, x.gap(0, 0, 4, 5));
        due("9 and 10 are far apart", 100, x.gap(0, 0, 9, 10));
    }

    private static void gapOfTwoFingers() {
        CHECK.part("QUICK 1: by TWO fingers");
        for (int from = 0; from < 30; from++) {
            TenFingers x = lawful(3);
            for (int to = 0; to < 30; to++) {
                Check.board(x, 1, from == to ? lay(from) : lay(from, to));
                Check.meant(x, from == to ? "aa" : "ab");
                due("two " + from + " " + to, 1 + gapBy("0000044444", from, to), x.time(3, 1, true));
                due("eight " + from + " " + to, 1 + gapBy(FINGERS, from, to), x.time(3, 1, false));
            }
        }
    }

    private static void gapLimits() {
        CHECK.part("LAWS (0 .. 999 each)");
        TenFingers x = new TenFingers();
        for (int law = 0; law < 6; law++) {
            x.law(1, law, 999);
            x.law(2, law, 0);
        }
        due("finger, a column and two lines", 999 * 4, x.gap(1, 0, 3, 24));
        due("same, two lines", 999 * 3, x.gap(1, 0, 0, 21));
        for (int to = 0; to < 30; to++) {
            due("laws of 0", 0, x.gap(2, 0, 0, to));
        }
        Check.board(x, 0, lay(0, 24));
        Check.meant(x, "ab".repeat(20));
        due("forty letters by two fingers", 999 + 39 * 999 * 7, x.time(1, 0, true));
        due("forty letters in no time", 0, x.time(2, 0, true));
        due("pace 9", (999 + 39 * 999 * 3) * 10 / 19 + 32 * 9999, x.pace(1, 0, 9, 9999));
    }

    private static void gapsOfTexts() {
        CHECK.part("A first KEY, one behind a letter that is on no KEY: ALT. A letter on no KEY takes 999");
        TenFingers x = with(lay(0, 1), "a");
        x.law(0, 0, 7);
        due("a first key", 7, x.time(0, 0, false));
        due("by two", 7, x.time(0, 0, true));
        Check.meant(x, "z");
        due("a first letter on no key", 999, x.time(0, 0, false));
        Check.meant(x, "za");
        due("one behind it", 999 + 7, x.time(0, 0, false));
        Check.meant(x, "az");
        due("it is behind a key", 7 + 999, x.time(0, 0, false));
        Check.meant(x, "aza");
        due("the same key, it is between", 7 + 999 + 7, x.time(0, 0, false));
        Check.meant(x, "azza");
        due("two of them between", 7 + 999 + 999 + 7, x.time(0, 0, false));
        Check.meant(x, "zz");
        due("twice on no key is no DOUBLE", 999 + 999, x.time(0, 0, false));
        Check.meant(x, "ab");
        due("no such letter between", 7 + 120, x.time(0, 0, false));
        Check.board(x, 0, EMPTY);
        due("on no board", 999 + 999, x.time(0, 0, true));
    }

    private static void texts() {
        CHECK.part("MEANT, WRITTEN. None at first");
        TenFingers x = new TenFingers();
        for (int i = -1; i <= 40; i++) {
            due("meant " + i, -9, x.sign(true, i));
            due("written " + i, -9, x.sign(false, i));
        }
        CHECK.part("TEXTS (letters alone, 40 at most)");
        String forty = "abcdefghij".repeat(4);
        due("meant of 40", 40, Check.meant(x, forty));
        due("its last", 9, x.sign(true, 39));
        due("none behind it", -9, x.sign(true, 40));
        due("written of 40", 40, Check.written(x, "ab<".repeat(13) + "<"));
        due("its last", 26, x.sign(false, 39));
        due("none behind it", -9, x.sign(false, 40));
        for (int length = 41; length <= 48; length++) {
            TenFingers y = new TenFingers();
            Check.feed(y, "a".repeat(length));
            due("meant of " + length, -6, y.text(true));
            due("written of " + length, -6, y.text(false));
            due("THE TAPE stays", length, y.count(4));
            due("no letters", 0, y.count(0) + y.count(1));
        }
        due("meant of none", 0, x.text(true));
        due("written stays", 40, x.count(1));
        due("written of none", 0, x.text(false));
        due("none", -9, x.sign(true, 0));
        due("none", -9, x.sign(false, 0));
    }

    private static void textSigns() {
        CHECK.part("letters alone; WRITTEN (this one with \"<\", too). FAULT likewise");
        for (int sign = 0; sign < 256; sign++) {
            boolean letter = sign >= 97 && sign <= 122;
            boolean taken = sign == 60;
            String one = "" + (char) sign;
            TenFingers x = new TenFingers();
            due("meant " + sign, letter ? 1 : -20, Check.meant(x, one));
            due("written " + sign, letter || taken ? 1 : -20, Check.written(x, one));
            due("word " + sign, letter ? 0 : -22, Check.word(x, "ab" + one));
            due("its number", letter ? sign - 97 : -9, x.sign(true, 0));
            due("its number", letter ? sign - 97 : taken ? 26 : -9, x.sign(false, 0));
        }
        for (int place = 0; place < 40; place++) {
            String text = "a".repeat(place) + "." + "a".repeat(39 - place);
            due("meant, . at " + place, -20 - place, Check.meant(new TenFingers(), text));
            due("written, . at " + place, -20 - place, Check.written(new TenFingers(), text));
            due("word, . at " + place, -20 - place, Check.word(new TenFingers(), text));
            due("the first of two", -20 - place, Check.meant(new TenFingers(), text.substring(0, 39) + "<"));
        }
    }

    private static void words() {
        CHECK.part("WORDS (10 at most; 2 to 8 letters)");
        TenFingers x = new TenFingers();
        due("none", -1, x.practise(0, 1));
        for (int word = 0; word < 10; word++) {
            due("word of 1", -3, Check.word(x, "a"));
            due("word " + word, word, Check.word(x, word % 2 == 0 ? "ab" : "abcdefgh"));
            due("words", word + 1, x.count(2));
            due("the next does not stand", -1, x.practise(word + 1, 1));
        }
        due("an eleventh", -6, Check.word(x, "ab"));
        due("THE TAPE stays", 2, x.count(4));
        due("an eleventh again", -6, x.word());
        due("words", 10, x.count(2));
        for (int length = 0; length <= 48; length++) {
            boolean fits = length >= 2 && length <= 8;
            TenFingers y = new TenFingers();
            due("word of " + length, fits ? 0 : -3, Check.word(y, "b".repeat(length)));
            due("tape", 0, y.count(4));
            due("words", fits ? 1 : 0, y.count(2));
            due("refused", fits ? 0 : 1, y.count(13));
        }
        CHECK.part("how often each was PRACTISED (0 at first)");
        due("first", 1, x.practise(9, 1));
        due("another", 1, x.practise(0, 1));
    }

    private static TenFingers pieced(String meant, int practised, String... words) {
        TenFingers x = with(lay(0, 1, 2), meant);
        for (int word = 0; word < words.length; word++) {
            Check.word(x, words[word]);
            x.practise(word, practised);
        }
        return x;
    }

    private static void duePieces(String meant, String want, String... words) {
        TenFingers x = pieced(meant, 3, words);
        StringBuilder found = new StringBuilder();
        for (int i = 0; i < x.pieces(); i++) {
            found.append(x.piece(i, 0)).append(',').append(x.piece(i, 1)).append(',').append(x.piece(i, 2)).append(' ');
        }
        due(meant + " is " + found + ", not " + want, found.toString().trim().equals(want), true);
        for (int what = 0; what < 3; what++) {
            due("none behind the last", -9, x.piece(x.pieces(), what));
            due("none ahead of the first", -9, x.piece(-1, what));
            due("none far behind", -9, x.piece(Integer.MAX_VALUE, what));
            due("none far ahead", -9, x.piece(Integer.MIN_VALUE, what));
        }
    }

    private static void pieces() {
        CHECK.part("from the first letter on the longest WORD (of several the least) that stands there");
        duePieces("abc", "0,2,0 2,1,-9", "ab", "bc");
        duePieces("abc", "0,3,1", "ab", "abc");
        duePieces("abc", "0,3,0", "abc", "ab");
        duePieces("ab", "0,2,0", "ab", "ab", "ab");
        duePieces("abab", "0,2,1 2,2,1", "abababab", "ab", "ab");
        duePieces("abcdefgh", "0,8,0", "abcdefgh", "abcdefg");
        duePieces("abcdefg", "0,7,1", "abcdefgh", "abcdefg");
        duePieces("aaaaa", "0,2,0 2,2,0 4,1,-9", "aa");
        duePieces("aaaaa", "0,3,1 3,2,0", "aa", "aaa");
        CHECK.part("... else one letter; and so on behind it");
        duePieces("", "");
        duePieces("a", "0,1,-9", "ab");
        duePieces("ba", "0,1,-9 1,1,-9", "ab");
        duePieces("bb", "0,1,-9 1,1,-9", "ab");
        duePieces("aa", "0,1,-9 1,1,-9", "ab");
        duePieces("acb", "0,1,-9 1,1,-9 2,1,-9", "ab", "abb", "bcb");
        duePieces("bab", "0,1,-9 1,2,0", "ab");
        duePieces("aab", "0,1,-9 1,2,0", "ab");
        duePieces("abca", "0,3,0 3,1,-9", "abc", "ca");
        CHECK.part("a WORD stands to the end of MEANT, and not beyond it");
        duePieces("xab", "0,1,-9 1,2,0", "ab");
        duePieces("xab", "0,1,-9 1,1,-9 2,1,-9", "abc");
        TenFingers x = pieced("aabbccddee".repeat(4), 3, "ddee", "eeaa");
        due("forty letters", 4 * 7, x.pieces());
        due("the last to the end", 4, x.piece(27, 1));
        due("it begins", 36, x.piece(27, 0));
        due("none behind it", -9, x.piece(28, 0));
        TenFingers y = pieced("ab".repeat(20), 2, "ab");
        due("forty pieces", 40, y.pieces());
        due("the last", 39, y.piece(39, 0));
        due("none behind it", -9, y.piece(40, 0));
        shorterMeant();
    }

    /** A WORD is looked for in MEANT as it is now, not in what a longer one left behind. */
    private static void shorterMeant() {
        TenFingers x = pieced("abab", 3, "ab");
        due("two", 2, x.pieces());
        Check.meant(x, "aba");
        due("the last is one letter", 1, x.piece(1, 1));
        due("it has no word", -9, x.piece(1, 2));
        due("behind it none", -9, x.piece(2, 1));
    }

    private static void practisedThree() {
        CHECK.part("PRACTISED 3 times or more");
        for (int times = 1; times <= 6; times++) {
            due("practised " + times, times >= 3 ? 1 : 2, pieced("ab", times, "ab").pieces());
        }
        due("never practised", 2, neverPractised().pieces());
        TenFingers x = neverPractised();
        x.practise(0, 2);
        x.practise(0, 1);
        due("two and one", 1, x.pieces());
        TenFingers y = pieced("abc", 2, "abc", "ab", "ab");
        y.practise(2, 1);
        due("the longest, the least are not practised enough", 2, y.piece(0, 2));
        y.practise(1, 1);
        due("the least is", 1, y.piece(0, 2));
        y.practise(0, 1);
        due("the longest is", 0, y.piece(0, 2));
        due("its letters", 3, y.piece(0, 1));
    }

    private static TenFingers neverPractised() {
        TenFingers x = with(EMPTY, "ab");
        Check.word(x, "ab");
        return x;
    }

    private static void timeOfPieces() {
        CHECK.part("of those in a PIECE but its first 100 less 5 times what its WORD was PRACTISED (10 at most)");
        for (int times = 1; times <= 14; times++) {
            int hundredths = times < 3 ? 100 : 100 - 5 * Math.min(times, 10);
            due("practised " + times, 100 + 120 * hundredths / 100, pieced("ab", times, "ab").time(0, 0, false));
        }
        due("practised 999", 100 + 60, pieced("ab", 999, "ab").time(0, 0, false));
        due("its first letter takes all", 100 + 60 + 120 + 60, pieced("abab", 10, "ab").time(0, 0, false));
        due("one letter takes all", 100 + 60 + 120, pieced("abc", 10, "ab").time(0, 0, false));
        due("the whole of a word but its first", 100 + 60 + 60, pieced("abc", 10, "abc").time(0, 0, false));
        CHECK.part("... hundredths, each cut");
        TenFingers x = pieced("abc", 3, "abc");
        x.law(0, 1, 1);
        due("85 hundredths of 1 are 0", 100, x.time(0, 0, false));
        x.law(0, 1, 2);
        due("85 hundredths of 2 are 1", 100 + 1 + 1, x.time(0, 0, false));
        x.law(0, 1, 20);
        due("85 hundredths of 20 are 17", 100 + 17 + 17, x.time(0, 0, false));
        x.law(0, 1, 19);
        due("85 hundredths of 19 are 16", 100 + 16 + 16, x.time(0, 0, false));
    }
}
