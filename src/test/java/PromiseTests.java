/** Each promise by its ordinary inputs, the edges that the document names, and wrong inputs. */
public final class PromiseTests {
    private static final String QWERTY = "qwertyuiop/asdfghjkl./zxcvbnm...";
    private static final String EMPTY = "........../........../..........";
    private static final Check CHECK = new Check("PromiseTests");

    public static void main(String[] args) {
        newObject();
        feed();
        board();
        text();
        word();
        keyOfAndLetterOn();
        fingerOf();
        law();
        gap();
        sign();
        practise();
        pieces();
        time();
        may();
        mayUnderSlip();
        where();
        exchange();
        better();
        climb();
        summer();
        putAndUnput();
        far();
        nearest();
        span();
        ache();
        pauses();
        pace();
        soonest();
        imageAndOn();
        count();
        refusals();
        CHECK.end();
    }

    private static void due(String call, long want, long got) {
        CHECK.due(call, want, got);
    }

    private static TenFingers qwerty(String meant) {
        TenFingers x = new TenFingers();
        Check.board(x, 0, QWERTY);
        Check.meant(x, meant);
        return x;
    }

    private static void newObject() {
        CHECK.part("promise 1");
        TenFingers x = new TenFingers();
        for (int board = 0; board < 4; board++) {
            for (int key = 0; key < 30; key++) {
                due("letterOn " + board + " " + key, -9, x.letterOn(board, key));
            }
            for (int letter = 0; letter < 26; letter++) {
                due("keyOf " + board + " " + letter, -9, x.keyOf(board, letter));
            }
        }
        for (int what = 0; what <= 4; what++) {
            due("count " + what, 0, x.count(what));
        }
        for (int what = 11; what <= 16; what++) {
            due("count " + what, 0, x.count(what));
        }
        due("on", -3, x.on());
    }

    private static void feed() {
        CHECK.part("promise 2");
        TenFingers x = new TenFingers();
        due("feed 0", -4, x.feed(0, 0));
        due("feed -1", -4, x.feed(-1, 0));
        due("feed least", -4, x.feed(Integer.MIN_VALUE, 0));
        due("feed 9", -6, x.feed(9, 0));
        due("feed greatest", -6, x.feed(Integer.MAX_VALUE, 0));
        due("tape", 0, x.count(4));
        due("feed 1", 1, x.feed(1, -1L));
        for (int i = 1; i < 6; i++) {
            due("feed 8", 8 * i + 1, x.feed(8, -1L));
        }
        due("feed 8 above 48", -6, x.feed(8, 0));
        due("tape", 41, x.count(4));
        due("feed 7 to 48", 48, x.feed(7, 0));
        due("feed 1 above 48", -6, x.feed(1, 0));
        due("feed 0 at 48", -4, x.feed(0, 0));
        TenFingers y = new TenFingers();
        due("feed only n bytes", 2, y.feed(2, Check.packed("abcdefgh")));
        due("feed the high byte", 10, y.feed(8, Check.packed("cdefghiz")));
        due("text", 10, y.text(true));
        due("sign 1", 1, y.sign(true, 1));
        due("sign 2", 2, y.sign(true, 2));
        due("sign 9", 25, y.sign(true, 9));
    }

    private static void board() {
        CHECK.part("promise 3");
        TenFingers x = new TenFingers();
        due("qwerty", 26, Check.board(x, 0, QWERTY));
        due("tape", 0, x.count(4));
        due("empty", 0, Check.board(x, 3, EMPTY));
        due("no text", -20, x.board(0));
        due("a letter twice", -21, Check.board(x, 0, "qq"));
        due("a letter twice, far", -20 - 31, Check.board(x, 0, "a........./........../.........a"));
        due("a capital", -20, Check.board(x, 0, "Q"));
        due("below a", -22, Check.board(x, 0, "ab`"));
        due("above z", -22, Check.board(x, 0, "ab{"));
        due("byte 255", -20, Check.board(x, 0, "\u00ff"));
        due("no line end", -30, Check.board(x, 0, "..........."));
        due("line end early", -29, Check.board(x, 0, "........./"));
        due("second line end early", -40, Check.board(x, 0, "........../........./"));
        due("lacks a line", -41, Check.board(x, 0, "........../.........."));
        due("lacks one", -51, Check.board(x, 0, QWERTY.substring(0, 31)));
        due("one too many", -52, Check.board(x, 0, QWERTY + "."));
        due("fault at the first of two", -20 - 5, Check.board(x, 0, ".....!....!"));
        due("tape after a fault", 0, x.count(4));
        due("nothing counted", 0, x.count(11) + x.count(12) + x.count(13) + x.count(14) + x.count(15) + x.count(16));
        due("board stays by a fault", 16, x.letterOn(0, 0));
        Check.feed(x, QWERTY);
        due("board 4", -1, x.board(4));
        due("board -1", -1, x.board(-1));
        due("tape stays", 32, x.count(4));
        due("board 3", 26, x.board(3));
        due("read again", 1, Check.board(x, 0, "........../........../.........a"));
        due("its letter", 29, x.keyOf(0, 0));
        due("none of before", -9, x.keyOf(0, 16));
        due("none of before", -9, x.letterOn(0, 0));
        due("the other board", 10, x.keyOf(3, 0));
    }

    private static void text() {
        CHECK.part("promise 4");
        TenFingers x = new TenFingers();
        String forty = "abcdefghijklmnopqrstuvwxyzabcdefghijklmn";
        due("forty", 40, Check.meant(x, forty));
        due("last sign", 13, x.sign(true, 39));
        Check.feed(x, forty + "a");
        due("meant above", -6, x.text(true));
        due("written above", -6, x.text(false));
        due("tape stays", 41, x.count(4));
        due("count of refusals", 2, x.count(16));
        due("the tape that stayed", -30, x.board(0));
        due("meant stays", 40, x.count(0));
        Check.feed(x, "A" + forty);
        due("above 40 ahead of fault", -6, x.text(true));
        x.board(0);
        due("meant with <", -21, Check.meant(x, "q<"));
        due("written with <", 2, Check.written(x, "q<"));
        due("written begins with <", 3, Check.written(x, "<<q"));
        due("sign <", 26, x.sign(false, 1));
        due("written with =", -21, Check.written(x, "a="));
        due("written with ;", -21, Check.written(x, "a;"));
        due("a fault at the first", -20, Check.written(x, ".a"));
        due("a fault at the first", -20, Check.meant(x, "<a"));
        due("written stays by a fault", 3, x.count(1));
        due("meant with a dot", -23, Check.meant(x, "abc.d"));
        due("meant stays by a fault", 40, x.count(0));
        due("tape after a fault", 0, x.count(4));
        due("nothing counted but -6", 3, x.count(11) + x.count(13) + x.count(16));
        due("shorter one", 1, Check.meant(x, "z"));
        due("no second sign", -9, x.sign(true, 1));
        due("none", 0, x.text(true));
        due("meant none", 0, x.count(0));
        due("written none", 0, x.text(false));
        due("written none", 0, x.count(1));
    }

    private static void word() {
        CHECK.part("promise 5");
        TenFingers x = new TenFingers();
        due("none", -3, x.word());
        due("one letter", -3, Check.word(x, "a"));
        due("tape gone", 0, x.count(4));
        due("nine letters", -3, Check.word(x, "abcdefghi"));
        due("counted", 3, x.count(13));
        due("fault ahead of -3, short", -20, Check.word(x, "."));
        due("fault ahead of -3, long", -29, Check.word(x, "abcdefghi<"));
        due("fault not counted", 3, x.count(13));
        due("fault of 48", -20 - 47, Check.word(x, "abcdefghabcdefghabcdefghabcdefghabcdefghabcdefg."));
        due("tape gone", 0, x.count(4));
        due("two letters", 0, Check.word(x, "ab"));
        due("eight letters", 1, Check.word(x, "abcdefgh"));
        due("the same again", 2, Check.word(x, "ab"));
        for (int i = 3; i < 10; i++) {
            due("word " + i, i, Check.word(x, "cd"));
        }
        Check.feed(x, "a.");
        due("no room, ahead of fault", -6, x.word());
        due("tape stays", 2, x.count(4));
        due("words", 10, x.count(2));
    }

    private static void keyOfAndLetterOn() {
        CHECK.part("promises 6 and 7");
        TenFingers x = qwerty("");
        String plain = QWERTY.replace("/", "");
        for (int key = 0; key < 30; key++) {
            char sign = plain.charAt(key);
            due("letterOn " + key, sign == '.' ? -9 : sign - 'a', x.letterOn(0, key));
            if (sign != '.') {
                due("keyOf " + sign, key, x.keyOf(0, sign - 'a'));
            }
        }
        due("keyOf on an empty board", -9, x.keyOf(1, 3));
        due("keyOf letter 26", -1, x.keyOf(0, 26));
        due("keyOf letter -1", -1, x.keyOf(0, -1));
        due("keyOf board 4", -1, x.keyOf(4, 0));
        due("keyOf board -1", -1, x.keyOf(-1, 0));
        due("letterOn key 30", -1, x.letterOn(0, 30));
        due("letterOn key -1", -1, x.letterOn(0, -1));
        due("letterOn board 4", -1, x.letterOn(4, 0));
        due("letterOn board -1", -1, x.letterOn(Integer.MIN_VALUE, 0));
        due("counted", 8, x.count(11));
    }

    private static void fingerOf() {
        CHECK.part("promise 8");
        TenFingers x = new TenFingers();
        int[] fingers = {0, 1, 2, 3, 3, 4, 4, 5, 6, 7};
        for (int key = 0; key < 30; key++) {
            due("fingerOf " + key, fingers[key % 10], x.fingerOf(key, false));
            due("fingerOf two " + key, key % 10 < 5 ? 0 : 4, x.fingerOf(key, true));
        }
        due("key 30", -1, x.fingerOf(30, false));
        due("key -1", -1, x.fingerOf(-1, true));
        due("counted", 2, x.count(11));
    }

    private static void law() {
        CHECK.part("promise 9");
        TenFingers x = new TenFingers();
        int[] first = {100, 120, 90, 150, 20, 15};
        for (int hand = 0; hand < 4; hand++) {
            for (int law = 0; law < 6; law++) {
                due("first law", first[law], x.law(hand, law, 10 * hand + law));
            }
        }
        for (int hand = 0; hand < 4; hand++) {
            for (int law = 0; law < 6; law++) {
                due("law again", 10 * hand + law, x.law(hand, law, 999));
            }
        }
        due("0", 999, x.law(3, 5, 0));
        due("was 0", 0, x.law(3, 5, 1));
        due("hand 4", -1, x.law(4, 0, -1));
        due("hand -1", -1, x.law(-1, 0, 1000));
        due("law 6", -1, x.law(0, 6, 0));
        due("law -1", -1, x.law(0, -1, 0));
        due("-1", -4, x.law(0, 0, -1));
        due("1000", -6, x.law(0, 0, 1000));
        due("stays", 999, x.law(0, 0, 5));
    }

    private static void gap() {
        CHECK.part("promise 10");
        TenFingers x = new TenFingers();
        due("double", 90, x.gap(0, 0, 29, 29));
        due("finger, a line", 170, x.gap(0, 0, 18, 8));
        due("finger, two lines", 190, x.gap(0, 0, 0, 20));
        due("finger, a column", 170, x.gap(0, 0, 3, 4));
        due("finger, a column and two lines", 210, x.gap(0, 0, 23, 4));
        due("finger, columns 5 and 6", 190, x.gap(0, 0, 5, 16));
        due("same, no line", 120, x.gap(0, 0, 0, 4));
        due("same, two lines", 150, x.gap(0, 0, 0, 21));
        due("same, a line, right", 135, x.gap(0, 0, 9, 15));
        due("alt", 100, x.gap(0, 0, 0, 9));
        due("alt, columns 4 and 5", 100, x.gap(0, 0, 4, 5));
        x.law(2, 0, 1);
        x.law(2, 1, 2);
        x.law(2, 2, 3);
        x.law(2, 3, 4);
        x.law(2, 4, 5);
        x.law(2, 5, 6);
        due("own alt", 1, x.gap(2, 3, 4, 5));
        due("own same", 14, x.gap(2, 3, 0, 21));
        due("own double", 3, x.gap(2, 3, 7, 7));
        due("own finger and steps", 19, x.gap(2, 3, 23, 4));
        due("hand 4", -1, x.gap(4, 0, 0, 0));
        due("hand -1", -1, x.gap(-1, 0, 0, 0));
        due("board 4", -1, x.gap(0, 4, 0, 0));
        due("board -1", -1, x.gap(0, -1, 0, 0));
        due("from 30", -1, x.gap(0, 0, 30, 0));
        due("from -1", -1, x.gap(0, 0, -1, 0));
        due("to 30", -1, x.gap(0, 0, 0, 30));
        due("to -1", -1, x.gap(0, 0, 0, -1));
        due("counted", 8, x.count(11));
    }

    private static void sign() {
        CHECK.part("promise 11");
        TenFingers x = qwerty("az");
        Check.written(x, "b<y");
        due("meant 0", 0, x.sign(true, 0));
        due("meant 1", 25, x.sign(true, 1));
        due("meant 2", -9, x.sign(true, 2));
        due("meant -1", -9, x.sign(true, -1));
        due("meant greatest", -9, x.sign(true, Integer.MAX_VALUE));
        due("written 0", 1, x.sign(false, 0));
        due("written 1", 26, x.sign(false, 1));
        due("written 2", 24, x.sign(false, 2));
        due("written 3", -9, x.sign(false, 3));
        due("written least", -9, x.sign(false, Integer.MIN_VALUE));
        due("nothing counted", 0, x.count(11) + x.count(12));
    }

    private static void practise() {
        CHECK.part("promise 12");
        TenFingers x = new TenFingers();
        due("no word", -1, x.practise(0, 1));
        Check.word(x, "ab");
        due("once", 1, x.practise(0, 1));
        due("more", 1000, x.practise(0, 999));
        due("below", -4, x.practise(0, 0));
        due("least", -4, x.practise(0, Integer.MIN_VALUE));
        due("above", -6, x.practise(0, 1000));
        due("word 1", -1, x.practise(1, 0));
        due("word -1", -1, x.practise(-1, 1000));
        for (int i = 2; i <= 9; i++) {
            due("more", 1000 + 999 * (i - 1), x.practise(0, 999));
        }
        due("to the most", 9991, x.practise(0, 999));
        due("the most", 9999, x.practise(0, 999));
        due("at the most", 9999, x.practise(0, 1));
    }

    private static void pieces() {
        CHECK.part("promises 13 and 14");
        TenFingers x = qwerty("abcabab");
        due("letters", 7, x.pieces());
        due("a letter's word", -9, x.piece(0, 2));
        Check.word(x, "ab");
        Check.word(x, "abc");
        Check.word(x, "ab");
        x.practise(2, 3);
        x.practise(0, 2);
        x.practise(1, 2);
        due("twice is too little", 4, x.pieces());
        due("word 2", 2, x.piece(0, 2));
        due("one letter", 1, x.piece(1, 1));
        x.practise(0, 1);
        due("of several the least", 0, x.piece(0, 2));
        x.practise(1, 1);
        due("pieces", 3, x.pieces());
        due("the longest", 1, x.piece(0, 2));
        due("its length", 3, x.piece(0, 1));
        due("its begin", 0, x.piece(0, 0));
        due("behind it", 3, x.piece(1, 0));
        due("last begins", 5, x.piece(2, 0));
        due("last's length", 2, x.piece(2, 1));
        due("no piece 3", -9, x.piece(3, 0));
        due("no piece 3", -9, x.piece(3, 1));
        due("no piece 3", -9, x.piece(3, 2));
        due("no piece -1", -9, x.piece(-1, 0));
        due("what 3", -2, x.piece(0, 3));
        due("what -1", -2, x.piece(-5, -1));
        due("counted", 2, x.count(12));
        Check.meant(x, "xabca");
        due("not at the end", 3, x.pieces());
        due("last", 4, x.piece(2, 0));
        Check.meant(x, "bb");
        due("another first letter", 2, x.pieces());
        Check.meant(x, "aa");
        due("another last letter", 2, x.pieces());
        Check.meant(x, "a");
        due("word beyond the end", 1, x.pieces());
        due("none", -9, x.piece(0, 2));
        Check.meant(x, "");
        due("no pieces", 0, x.pieces());
    }

    private static void time() {
        CHECK.part("promise 15");
        TenFingers x = qwerty("look");
        due("look", 495, x.time(0, 0, false));
        due("look by two", 100 + 170 + 90 + 190, x.time(0, 0, true));
        due("on an empty board", 4 * 999, x.time(0, 1, false));
        Check.board(x, 2, "lo......../........../..........");
        due("k on no key", 100 + 120 + 90 + 999, x.time(0, 2, false));
        Check.meant(x, "lko");
        due("behind a letter on no key", 100 + 999 + 100, x.time(0, 2, false));
        due("behind it by two", 100 + 999 + 100, x.time(0, 2, true));
        Check.word(x, "lko");
        x.practise(0, 3);
        due("999 in a piece", 100 + 849 + 85, x.time(0, 2, false));
        x.practise(0, 6);
        due("practised 9", 100 + 549 + 55, x.time(0, 2, false));
        x.practise(0, 1);
        due("practised 10", 100 + 499 + 50, x.time(0, 2, false));
        x.practise(0, 1);
        due("practised 11", 100 + 499 + 50, x.time(0, 2, false));
        due("in a piece by two", 100 + 499 + 50, x.time(0, 2, true));
        Check.meant(x, "");
        due("nothing", 0, x.time(3, 0, false));
        due("hand 4", -1, x.time(4, 0, false));
        due("hand -1", -1, x.time(-1, 0, false));
        due("board 4", -1, x.time(0, 4, true));
        due("board -1", -1, x.time(0, -1, true));
        Check.meant(x, "ty");
        due("halves", 200, x.time(0, 0, true));
        Check.meant(x, "qg");
        due("two: four columns and a line", 100 + 150 + 20 * 5, x.time(0, 0, true));
    }

    private static void dueMay(TenFingers x, String written, int want) {
        Check.written(x, written);
        due("may of " + written, want, x.may(0));
    }

    private static void may() {
        CHECK.part("promise 16");
        TenFingers x = qwerty("look");
        dueMay(x, "look", 0);
        dueMay(x, "lobk", 1);
        dueMay(x, "zook", 1);
        dueMay(x, "zobk", 0);
        dueMay(x, "olok", 2);
        dueMay(x, "loko", 2);
        dueMay(x, "kool", 0);
        dueMay(x, "ook", 64);
        dueMay(x, "lok", 64);
        dueMay(x, "loo", 64);
        dueMay(x, "ok", 0);
        dueMay(x, "lkk", 0);
        dueMay(x, "looka", 0);
        dueMay(x, "a<look", 128);
        dueMay(x, "l<look", 0);
        dueMay(x, "loa<ok", 128);
        dueMay(x, "loo<ok", 0);
        dueMay(x, "looo<k", 128);
        dueMay(x, "looka<", 0);
        dueMay(x, "lo<ok", 0);
        dueMay(x, "lo<k", 0);
        dueMay(x, "<<look", 0);
        dueMay(x, "lo<<ok", 0);
        dueMay(x, "la<b<ook", 0);
        dueMay(x, "a<looh", 0);
        dueMay(x, "", 0);
        due("board 4", -1, x.may(4));
        due("board -1", -1, x.may(-1));
        due("on an empty board", 0, x.may(1));
        Check.meant(x, "a");
        due("one letter lost", 64, x.may(0));
    }

    private static void mayUnderSlip() {
        CHECK.part("promise 16, under SLIP");
        TenFingers x = qwerty("look");
        dueMay(x, "lokk", 1 + 4 + 32);
        dueMay(x, "llok", 1 + 4 + 16);
        dueMay(x, "lwok", 1 + 8);
        dueMay(x, "lpok", 1 + 16);
        dueMay(x, "lkok", 1 + 32);
        dueMay(x, "oook", 1 + 16 + 32);
        dueMay(x, "kook", 1 + 16);
        Check.meant(x, "abcd");
        dueMay(x, "dbcd", 1);
        dueMay(x, "cbcd", 1 + 32);
        dueMay(x, "abcc", 1 + 16);
        dueMay(x, "abca", 1);
        Check.meant(x, "gg");
        dueMay(x, "gh", 1 + 8 + 16);
        dueMay(x, "hg", 1 + 8 + 16);
        dueMay(x, "gt", 1 + 16);
        dueMay(x, "gb", 1 + 16);
        dueMay(x, "gf", 1 + 16);
        dueMay(x, "gy", 1);
        dueMay(x, "gj", 1);
        Check.meant(x, "pq");
        dueMay(x, "aq", 1);
        dueMay(x, "qq", 1 + 8 + 32);
        Check.meant(x, "aab");
        dueMay(x, "abb", 1 + 4 + 32);
        dueMay(x, "aaa", 1);
        dueMay(x, "bab", 1 + 32);
        Check.meant(x, "baa");
        dueMay(x, "bba", 1 + 4);
        dueMay(x, "bab", 1);
        Check.meant(x, "aaa");
        dueMay(x, "aba", 1);
        Check.board(x, 0, EMPTY);
        Check.meant(x, "gh");
        dueMay(x, "hh", 1 + 32);
    }

    private static void dueWhere(String meant, String written, int kind, int want) {
        TenFingers x = qwerty(meant);
        Check.written(x, written);
        due("where " + meant + " " + written + " " + kind, want, x.where(0, kind));
        due("as may tells", want >= 0 ? 1 : 0, x.may(0) >> kind & 1);
    }

    private static void where() {
        CHECK.part("promise 17");
        dueWhere("look", "lobk", 0, 2);
        dueWhere("look", "lobk", 1, -9);
        dueWhere("look", "olok", 1, 0);
        dueWhere("look", "loko", 1, 2);
        dueWhere("look", "lokk", 2, 1);
        dueWhere("look", "llok", 2, 0);
        dueWhere("xaab", "xabb", 2, 1);
        dueWhere("aabb", "abbb", 2, 0);
        dueWhere("aabb", "aaab", 2, 1);
        dueWhere("look", "lwok", 3, 1);
        dueWhere("look", "lopk", 4, 2);
        dueWhere("look", "lkok", 5, 1);
        dueWhere("look", "lok", 6, 1);
        dueWhere("look", "loo", 6, 3);
        dueWhere("aaaa", "aaa", 6, 0);
        dueWhere("baaa", "baa", 6, 1);
        dueWhere("look", "looa<k", 7, 3);
        dueWhere("look", "b<look", 7, 0);
        dueWhere("look", "lookb<", 7, -9);
        TenFingers x = qwerty("look");
        due("kind 8", -2, x.where(0, 8));
        due("kind -1", -2, x.where(0, -1));
        due("board ahead of kind", -1, x.where(4, 8));
        due("board -1", -1, x.where(-1, 0));
        due("counted", 2, x.count(11));
        due("counted", 2, x.count(12));
    }

    private static void exchange() {
        CHECK.part("promise 18");
        TenFingers x = qwerty("");
        due("two letters", 1, x.exchange(0, 0, 29 - 9));
        due("z is on 0", 0, x.keyOf(0, 25));
        due("q is on 20", 16, x.letterOn(0, 20));
        due("a letter and none", 1, x.exchange(0, 19, 0));
        due("none on 0", -9, x.letterOn(0, 0));
        due("z is on 19", 19, x.keyOf(0, 25));
        due("none and none", 1, x.exchange(0, 0, 29));
        due("none on 29", -9, x.letterOn(0, 29));
        due("one key twice", -1, x.exchange(0, 5, 5));
        due("a 30", -1, x.exchange(0, 30, 5));
        due("a -1", -1, x.exchange(0, -1, 5));
        due("b 30", -1, x.exchange(0, 5, 30));
        due("b -1", -1, x.exchange(0, 5, -1));
        due("board 4", -1, x.exchange(4, 5, 6));
        due("board -1", -1, x.exchange(-1, 5, 6));
        due("counted", 7, x.count(11));
        due("nothing changes", 24, x.letterOn(0, 5));
    }

    private static void better() {
        CHECK.part("promise 19");
        TenFingers x = new TenFingers();
        Check.board(x, 1, "ab......../........../..........");
        Check.meant(x, "abab");
        due("first of the best", 5, x.better(0, 1));
        due("nothing is made", 0, x.keyOf(1, 0));
        due("on an empty board", -9, x.better(0, 0));
        x.exchange(1, 1, 5);
        due("there is none", -9, x.better(0, 1));
        Check.board(x, 2, "bx......../........../a.........");
        Check.meant(x, "ba");
        due("b away from its finger", 5, x.better(0, 2));
        x.law(1, 3, 0);
        x.law(1, 4, 0);
        due("another hand", -9, x.better(1, 2));
        Check.meant(x, "");
        due("no letters", -9, x.better(0, 2));
        due("hand 4", -1, x.better(4, 0));
        due("hand -1", -1, x.better(-1, 0));
        due("board 4", -1, x.better(0, 4));
        due("board -1", -1, x.better(0, -1));
        Check.board(x, 3, ".........a/........b./..........");
        Check.meant(x, "ab");
        due("a from 9 to 0", 9, x.better(0, 3));
        betterEdges();
    }

    private static void betterEdges() {
        TenFingers x = new TenFingers();
        Check.board(x, 0, "a........./.b......../..........");
        Check.meant(x, "ab");
        x.law(3, 3, 10);
        x.law(3, 4, 1);
        due("keys beside each other", 1, x.better(3, 0));
        Check.board(x, 0, "....a....b/........../..........");
        x.law(0, 0, 50);
        x.law(0, 1, 49);
        due("by one less", 9, x.better(0, 0));
        x.law(0, 1, 50);
        due("no less", -9, x.better(0, 0));
        Check.board(x, 1, "ab......../........../..........");
        due("same is no finger for eight", -9, x.better(0, 1));
        x.law(0, 1, 51);
        due("one less", 5, x.better(0, 1));
        Check.word(x, "ab");
        x.practise(0, 10);
        due("one less, cut in a piece", -9, x.better(0, 1));
        x.law(0, 1, 52);
        due("two less, cut in a piece", 5, x.better(0, 1));
    }

    private static void climb() {
        CHECK.part("promise 20");
        TenFingers x = new TenFingers();
        String line = "abcdefghij/........../..........";
        Check.board(x, 1, line);
        Check.board(x, 2, line);
        Check.meant(x, "abcdefghijacegbdfhaibj");
        int made = 0;
        for (int i = 0; i < 3; i++) {
            int best = x.better(0, 2);
            if (best >= 0) {
                x.exchange(2, best / 100, best % 100);
                made++;
            }
        }
        due("climb 3", made, x.climb(0, 1, 3));
        for (int key = 0; key < 30; key++) {
            due("the same board " + key, x.letterOn(2, key), x.letterOn(1, key));
        }
        Check.meant(x, "ab");
        Check.board(x, 1, "ab......../........../..........");
        due("till there is none", 1, x.climb(0, 1, 5));
        due("none", 0, x.climb(0, 1, 1));
        TenFingers y = new TenFingers();
        Check.board(y, 0, "ab......../........../..........");
        Check.meant(y, "ab");
        due("first of all calls", 1, y.climb(0, 0, 5));
        Check.board(y, 0, "ab......../........../..........");
        y.law(0, 1, 101);
        due("time", 201, y.time(0, 0, false));
        Check.word(y, "ab");
        y.practise(0, 10);
        due("pieces of now", 0, y.climb(0, 0, 5));
        due("n 0", -4, x.climb(0, 1, 0));
        due("n 6", -6, x.climb(0, 1, 6));
        due("hand 4", -1, x.climb(4, 1, 0));
        due("hand -1", -1, x.climb(-1, 1, 6));
        due("board 4", -1, x.climb(0, 4, 1));
        due("board -1", -1, x.climb(0, -1, 1));
    }

    private static void summer() {
        CHECK.part("promise 21");
        TenFingers x = new TenFingers();
        due("summer", 24, x.summer(80, 2, 9));
        due("none", -9, x.summer(0, 1, 1));
        due("quick", 1, x.summer(99, 50, 50));
        due("none of days 0 .. 998", -9, x.summer(25, 3, 1));
        due("none of days 0 .. 998", -9, x.summer(15, 1, 4));
        due("as much on day 5", 5, x.summer(0, 50, 50));
        due("start -1", -4, x.summer(-1, 51, 51));
        due("start 100", -6, x.summer(100, 1, 1));
        due("step 0", -4, x.summer(100, 0, 51));
        due("step 51", -6, x.summer(0, 51, 1));
        due("gain 0", -4, x.summer(100, 51, 0));
        due("gain 51", -6, x.summer(0, 1, 51));
        due("counted", 3, x.count(14));
        due("counted", 3, x.count(16));
    }

    private static void putAndUnput() {
        CHECK.part("promises 22 and 23");
        TenFingers x = new TenFingers();
        due("none", 0, x.unput());
        due("-1", -4, x.put(-1));
        due("10000", -6, x.put(10000));
        for (int i = 1; i <= 40; i++) {
            due("put", i, x.put(i % 2 == 0 ? 0 : 9999));
        }
        due("no room", -6, x.put(0));
        due("below ahead of no room", -4, x.put(-1));
        due("row", 40, x.count(3));
        due("unput", 40, x.unput());
        due("unput", 0, x.unput());
        due("anew", 1, x.put(7));
    }

    private static void putAll(TenFingers x, int... gaps) {
        for (int gap : gaps) {
            x.put(gap);
        }
    }

    private static void far() {
        CHECK.part("promise 24");
        TenFingers x = qwerty("look");
        due("no row", 0, x.far(0, 0));
        putAll(x, 90, 200, 90);
        due("three", 10 + 30, x.far(0, 0));
        putAll(x, 0, 5000);
        due("as long as both are", 40 + 135, x.far(0, 0));
        due("on an empty board", 909 + 799 + 909 + 999, x.far(0, 1));
        Check.word(x, "look");
        x.practise(0, 10);
        due("without pieces", 40 + 135, x.far(0, 0));
        x.law(1, 0, 90);
        due("another hand", 30 + 135, x.far(1, 0));
        due("hand 4", -1, x.far(4, 0));
        due("hand -1", -1, x.far(-1, 0));
        due("board 4", -1, x.far(0, 4));
        due("board -1", -1, x.far(0, -1));
    }

    private static void nearest() {
        CHECK.part("promise 25");
        TenFingers x = qwerty("look");
        putAll(x, 100, 170, 90);
        x.law(1, 0, 101);
        x.law(2, 0, 102);
        x.law(3, 0, 103);
        due("too short", -9, x.nearest(0));
        x.put(135);
        due("hand 0", 0, x.nearest(0));
        x.put(135);
        due("too long", -9, x.nearest(0));
        x.unput();
        putAll(x, 103, 170, 90, 135);
        due("hand 3", 3, x.nearest(0));
        x.law(1, 0, 103);
        due("two have it", -9, x.nearest(0));
        x.law(3, 0, 999);
        due("hand 1", 1, x.nearest(0));
        x.law(3, 0, 102);
        due("two have more", 1, x.nearest(0));
        x.law(0, 0, 102);
        due("three have more", 1, x.nearest(0));
        due("on an empty board", -9, x.nearest(2));
        due("board 4", -1, x.nearest(4));
        due("board -1", -1, x.nearest(-1));
        x.unput();
        Check.meant(x, "");
        due("nothing", -9, x.nearest(0));
    }

    private static void span() {
        CHECK.part("promise 26");
        TenFingers x = qwerty("qpqwwqaqpp");
        putAll(x, 1, 2, 30, 4, 5, 6, 7, 8, 9);
        due("alt least", 2, x.span(0, 0, false));
        due("alt greatest", 30, x.span(0, 0, true));
        due("same least", 4, x.span(0, 1, false));
        due("same greatest", 6, x.span(0, 1, true));
        due("double least", 5, x.span(0, 2, false));
        due("double greatest", 5, x.span(0, 2, true));
        x.put(77);
        due("double greatest", 77, x.span(0, 2, true));
        x.put(9999);
        due("beyond meant", 77, x.span(0, 2, true));
        due("on an empty board", -9, x.span(1, 0, true));
        x.unput();
        due("no row", -9, x.span(0, 0, true));
        Check.meant(x, "qs");
        putAll(x, 3, 5);
        due("a line between", -9, x.span(0, 1, true));
        due("not alt", -9, x.span(0, 0, true));
        Check.board(x, 1, "q........./........../..........");
        Check.meant(x, "qpq");
        x.put(8);
        due("one on no key", -9, x.span(1, 0, true));
        x.unput();
        putAll(x, 5, 0, 0);
        due("0 is least", 0, x.span(0, 0, false));
        x.unput();
        putAll(x, 5, 0, 7);
        due("0 is least, ahead of more", 0, x.span(0, 0, false));
        x.unput();
        putAll(x, 5, 5, 5);
        Check.board(x, 2, "q....p..../........../..........");
        Check.meant(x, "xqx");
        due("behind one on no key: same", -9, x.span(2, 1, true));
        Check.meant(x, "xpx");
        due("behind one on no key: alt", -9, x.span(2, 0, true));
        due("law 3", -2, x.span(0, 3, true));
        due("law -1", -2, x.span(0, -1, true));
        due("board ahead of law", -1, x.span(4, 3, true));
        due("board -1", -1, x.span(-1, 0, true));
    }

    private static void ache() {
        CHECK.part("promise 27");
        TenFingers x = qwerty("qaqqzp");
        due("finger 0", 1 + 3 + 3 + 1 + 3, x.ache(0, 0));
        due("finger 7", 1, x.ache(0, 7));
        due("finger 1", 0, x.ache(0, 1));
        Check.meant(x, "rtfg");
        due("finger 3", 1 + 3 + 3 + 3, x.ache(0, 3));
        due("on an empty board", 0, x.ache(1, 3));
        Check.board(x, 1, "r........./f........./..........");
        Check.meant(x, "rtf");
        due("one on no key between", 2, x.ache(1, 0));
        Check.meant(x, "qwpo");
        due("another finger of the half", 1, x.ache(0, 1));
        due("another finger of the half", 1, x.ache(0, 6));
        due("finger 8", -1, x.ache(0, 8));
        due("finger -1", -1, x.ache(0, -1));
        due("board 4", -1, x.ache(4, 0));
        due("board -1", -1, x.ache(-1, 0));
    }

    private static void pauses() {
        CHECK.part("promise 28");
        TenFingers x = qwerty("pqpqpq");
        due("line 6", 0, x.pauses(0, 6, 0));
        due("line 5, rest 0", -9, x.pauses(0, 5, 0));
        due("line 5, rest 1", 1, x.pauses(0, 5, 1));
        due("line 1, rest 1", 5, x.pauses(0, 1, 1));
        due("line 2, rest 999", 2, x.pauses(0, 2, 999));
        Check.meant(x, "qaqa");
        due("adds more than line", -9, x.pauses(0, 2, 5));
        due("again and again", 0 + 1 + 3 + 3, x.pauses(0, 3, 1));
        due("rest 2", 1 + 2 + 2, x.pauses(0, 3, 2));
        Check.meant(x, "qap");
        due("the later of two aches more", 2, x.pauses(0, 3, 3));
        due("line 999", 0, x.pauses(0, 999, 999));
        due("on an empty board", 0, x.pauses(1, 1, 0));
        due("line 0", -4, x.pauses(0, 0, 1000));
        due("rest -1", -4, x.pauses(0, 1000, -1));
        due("line 1000", -6, x.pauses(0, 1000, 0));
        due("rest 1000", -6, x.pauses(0, 1, 1000));
        due("board 4", -1, x.pauses(4, 0, 0));
        due("board -1", -1, x.pauses(-1, 0, -1));
    }

    private static void pace() {
        CHECK.part("promise 29");
        TenFingers x = qwerty("look");
        due("pace 1", 450, x.pace(0, 0, 1, 9999));
        due("pace 4", 353, x.pace(0, 0, 4, 9999));
        due("pace 5", 330 + 7, x.pace(0, 0, 5, 7));
        due("pace 9", 260 + 3 * 9999, x.pace(0, 0, 9, 9999));
        Check.word(x, "ok");
        x.practise(0, 10);
        due("with pieces", 4270 / 11, x.pace(0, 0, 1, 0));
        due("letters on no key", 34960 / 19 + 3 * 800, x.pace(0, 1, 9, 800));
        due("p 0", -4, x.pace(0, 0, 0, 10000));
        due("p 10", -6, x.pace(0, 0, 10, 0));
        due("mend -1", -4, x.pace(0, 0, 10, -1));
        due("mend 10000", -6, x.pace(0, 0, 9, 10000));
        due("hand 4", -1, x.pace(4, 0, 0, 0));
        due("hand -1", -1, x.pace(-1, 0, 10, 0));
        due("board 4", -1, x.pace(0, 4, 1, 0));
        due("board -1", -1, x.pace(0, -1, 1, 0));
    }

    private static void soonest() {
        CHECK.part("promise 30");
        TenFingers x = qwerty("look");
        due("mend 0", 9, x.soonest(0, 0, 0));
        due("mend 9999", 4, x.soonest(0, 0, 9999));
        for (int mend = 0; mend < 100; mend += 7) {
            int best = 1;
            for (int p = 2; p <= 9; p++) {
                best = x.pace(0, 0, p, mend) < x.pace(0, 0, best, mend) ? p : best;
            }
            due("mend " + mend, best, x.soonest(0, 0, mend));
        }
        due("mend -1", -4, x.soonest(0, 0, -1));
        due("mend 10000", -6, x.soonest(0, 0, 10000));
        due("hand 4", -1, x.soonest(4, 0, -1));
        due("hand -1", -1, x.soonest(-1, 0, 0));
        due("board 4", -1, x.soonest(0, 4, 10000));
        due("board -1", -1, x.soonest(0, -1, 0));
        Check.meant(x, "");
        due("of several the least", 1, x.soonest(0, 0, 5));
        Check.meant(x, "looklooklook");
        due("pace 2, as 3 has a slip", 2, x.soonest(0, 0, 9999));
    }

    private static void imageAndOn() {
        CHECK.part("promises 31 and 32");
        TenFingers x = qwerty("look");
        due("none yet", -3, x.on());
        Check.written(x, "lok<");
        Check.word(x, "ok");
        x.practise(0, 5);
        x.law(2, 3, 7);
        x.law(0, 0, 6);
        x.law(0, 5, 5);
        putAll(x, 4, 5);
        due("image", 1, x.image());
        x.law(0, 0, 66);
        x.law(0, 5, 55);
        Check.board(x, 0, EMPTY);
        Check.board(x, 3, QWERTY);
        Check.meant(x, "a");
        Check.written(x, "");
        Check.word(x, "ko");
        x.practise(0, 5);
        x.law(2, 3, 8);
        x.unput();
        due("refused", -1, x.board(4));
        Check.feed(x, "tape");
        for (int again = 0; again < 2; again++) {
            due("on", 1, x.on());
            due("board", 16, x.letterOn(0, 0));
            due("key", 0, x.keyOf(0, 16));
            due("board 3", -9, x.letterOn(3, 0));
            due("key", -9, x.keyOf(3, 16));
            due("meant", 4, x.count(0));
            due("meant", 10, x.sign(true, 3));
            due("written", 26, x.sign(false, 3));
            due("words", 1, x.count(2));
            due("law", 7, x.law(2, 3, 9));
            due("law 0 of hand 0", 6, x.law(0, 0, 9));
            due("law 5 of hand 0", 5, x.law(0, 5, 9));
            due("practised", 6, x.practise(0, 1));
            due("row", 3, x.put(1));
            due("tape stays", 4, x.count(4));
            due("refusals stay", 1, x.count(11));
            due("refusals stay", 1, x.count(13));
        }
        x.on();
        Check.meant(x, "");
        x.text(true);
        due("a later image", 1, x.image());
        Check.meant(x, "abc");
        x.on();
        due("the later one", 0, x.count(0));
    }

    private static void count() {
        CHECK.part("promise 33");
        TenFingers x = qwerty("look");
        Check.written(x, "l<");
        Check.word(x, "ab");
        putAll(x, 1, 2, 3);
        x.feed(5, 0);
        due("meant", 4, x.count(0));
        due("written", 2, x.count(1));
        due("words", 1, x.count(2));
        due("row", 3, x.count(3));
        due("tape", 5, x.count(4));
        for (int what : new int[] {-1, 5, 6, 9, 10, 17, 18, Integer.MIN_VALUE, Integer.MAX_VALUE}) {
            due("count " + what, -9, x.count(what));
        }
        due("nothing counted", 0, x.count(11) + x.count(12) + x.count(13) + x.count(14) + x.count(15) + x.count(16));
    }

    private static void refusals() {
        CHECK.part("REFUSALS");
        TenFingers x = new TenFingers();
        int[] least = {1, 2, 3, 4, 0, 5};
        x.board(9);
        for (int i = 0; i < 2; i++) {
            x.where(0, 9);
        }
        for (int i = 0; i < 3; i++) {
            x.on();
        }
        for (int i = 0; i < 4; i++) {
            x.put(-1);
        }
        for (int i = 0; i < 5; i++) {
            x.put(10000);
        }
        for (int i = 0; i < 6; i++) {
            due("count " + (11 + i), least[i], x.count(11 + i));
        }
    }
}
