/**
 * Ten fingers without looking: boards of letters, the gaps between their keys by the laws of hands, texts meant and
 * written, words that become pieces by use, and what may be told of all of them. The document is ../shared/DOC.md.
 */
public final class TenFingers {
    private static final int NONE = -9;

    private static final int NOBODY = -1;
    private static final int OTHER = -2;
    private static final int STATE = -3;
    private static final int BELOW = -4;
    private static final int ROOM = -6;
    private static final int FAULT_AT_START = -20;

    private static final int BOARDS = 4;
    private static final int HANDS = 4;
    private static final int COLUMNS = 10;
    private static final int KEYS = 30;
    private static final int LETTERS = 26;
    private static final int FINGERS = 8;
    private static final int BOARD_SIGNS = 32;

    private static final int ALT = 0;
    private static final int SAME = 1;
    private static final int DOUBLE = 2;
    private static final int FINGER = 3;
    private static final int STEP = 4;
    private static final int LINE = 5;
    private static final int LAWS = 6;
    private static final int LAW_MOST = 999;
    private static final int OFF_BOARD_GAP = 999;

    private static final int TAPE_ROOM = 48;
    private static final int FEED_MOST = 8;
    private static final int TEXT_ROOM = 40;
    private static final int ROW_ROOM = 40;
    private static final int GAP_MOST = 9999;
    private static final int TAKEN_BACK = 26;

    private static final int WORDS = 10;
    private static final int WORD_LEAST = 2;
    private static final int WORD_MOST = 8;
    private static final int PIECE_FROM = 3;
    private static final int PRACTISED_MOST = 9999;
    private static final int PRACTISE_MOST = 999;
    private static final int USE_MOST = 10;
    private static final int USE_HUNDREDTHS = 5;
    private static final int WHOLE = 100;

    private static final int SLIP = 0;
    private static final int SWAPPED = 1;
    private static final int DOUBLED = 2;
    private static final int MIRRORED = 3;
    private static final int NEAR = 4;
    private static final int EARLY = 5;
    private static final int LOST = 6;
    private static final int CAUGHT = 7;
    private static final int KINDS = 8;

    private static final int CLIMB_MOST = 5;
    private static final int SUMMER_DAYS = 999;
    private static final int START_MOST = 99;
    private static final int STEP_MOST = 50;
    private static final int GAIN_MOST = 50;
    private static final int OLD_A_DAY = 100;
    private static final int ACHE_LINE_MOST = 999;
    private static final int PACE_MOST = 9;
    private static final int MEND_MOST = 9999;

    private static final int REFUSAL_KINDS = 6;
    private static final int COUNT_REFUSALS = 10;

    private final State now;
    private final State kept;
    private final Series tape;
    private final Pieces pieceRow;
    private final Strokes strokes;
    private final int[] refused;
    private boolean imageTaken;

    public TenFingers() {
        now = new State();
        kept = new State();
        tape = new Series(TAPE_ROOM);
        pieceRow = new Pieces();
        strokes = new Strokes();
        refused = new int[REFUSAL_KINDS + 1];
        imageTaken = false;
    }

    public int feed(int n, long bytes) {
        if (n < 1) {
            return refuse(BELOW);
        }
        if (n > FEED_MOST || n > TAPE_ROOM - tape.size()) {
            return refuse(ROOM);
        }
        for (int i = 0; i < n; i++) {
            tape.add((int) (bytes >>> (8 * i)) & 255);
        }
        return tape.size();
    }

    public int board(int board) {
        if (noBoard(board)) {
            return refuse(NOBODY);
        }
        int fault = Reading.boardFault(tape);
        int answer = fault >= 0 ? FAULT_AT_START - fault : now.boards[board].readFrom(tape);
        tape.clear();
        return answer;
    }

    public int text(boolean meant) {
        if (tape.size() > TEXT_ROOM) {
            return refuse(ROOM);
        }
        int fault = Reading.textFault(tape, !meant);
        int answer = fault >= 0 ? FAULT_AT_START - fault : Reading.signsInto(meant ? now.meant : now.written, tape);
        tape.clear();
        return answer;
    }

    public int word() {
        if (now.words.size() >= WORDS) {
            return refuse(ROOM);
        }
        int fault = Reading.textFault(tape, false);
        int answer;
        if (fault >= 0) {
            answer = FAULT_AT_START - fault;
        } else if (tape.size() < WORD_LEAST || tape.size() > WORD_MOST) {
            answer = refuse(STATE);
        } else {
            answer = now.words.addFrom(tape);
        }
        tape.clear();
        return answer;
    }

    public int keyOf(int board, int letter) {
        if (noBoard(board) || letter < 0 || letter >= LETTERS) {
            return refuse(NOBODY);
        }
        return now.boards[board].keyAt(letter);
    }

    public int letterOn(int board, int key) {
        if (noBoard(board) || noKey(key)) {
            return refuse(NOBODY);
        }
        return now.boards[board].letterAt(key);
    }

    public int fingerOf(int key, boolean two) {
        if (noKey(key)) {
            return refuse(NOBODY);
        }
        return Keys.fingerBy(key, two);
    }

    public int law(int hand, int law, int v) {
        if (noHand(hand) || law < 0 || law >= LAWS) {
            return refuse(NOBODY);
        }
        if (v < 0) {
            return refuse(BELOW);
        }
        if (v > LAW_MOST) {
            return refuse(ROOM);
        }
        return now.hands[hand].changeLaw(law, v);
    }

    public int gap(int hand, int board, int from, int to) {
        if (noHand(hand) || noBoard(board) || noKey(from) || noKey(to)) {
            return refuse(NOBODY);
        }
        return now.hands[hand].gapTo(from, to, false);
    }

    public int sign(boolean meant, int i) {
        return meant ? now.meant.at(i) : now.written.at(i);
    }

    public int practise(int word, int n) {
        if (word < 0 || word >= now.words.size()) {
            return refuse(NOBODY);
        }
        if (n < 1) {
            return refuse(BELOW);
        }
        if (n > PRACTISE_MOST) {
            return refuse(ROOM);
        }
        return now.words.useMore(word, n);
    }

    public int piece(int i, int what) {
        if (what < 0 || what > 2) {
            return refuse(OTHER);
        }
        pieceRow.cutFrom(now.meant, now.words);
        if (what == 0) {
            return pieceRow.beginAt(i);
        }
        return what == 1 ? pieceRow.lengthAt(i) : pieceRow.wordAt(i);
    }

    public int pieces() {
        pieceRow.cutFrom(now.meant, now.words);
        return pieceRow.size();
    }

    public int time(int hand, int board, boolean two) {
        if (noHand(hand) || noBoard(board)) {
            return refuse(NOBODY);
        }
        return timeOfMeant(hand, board, two);
    }

    public int may(int board) {
        if (noBoard(board)) {
            return refuse(NOBODY);
        }
        int bits = 0;
        for (int kind = 0; kind < KINDS; kind++) {
            if (Slips.placeOf(kind, now.meant, now.written, now.boards[board]) >= 0) {
                bits |= 1 << kind;
            }
        }
        return bits;
    }

    public int where(int board, int kind) {
        if (noBoard(board)) {
            return refuse(NOBODY);
        }
        if (kind < 0 || kind >= KINDS) {
            return refuse(OTHER);
        }
        return Slips.placeOf(kind, now.meant, now.written, now.boards[board]);
    }

    public int exchange(int board, int a, int b) {
        if (noBoard(board) || noKey(a) || noKey(b) || a == b) {
            return refuse(NOBODY);
        }
        now.boards[board].swap(a, b);
        return 1;
    }

    public int better(int hand, int board) {
        if (noHand(hand) || noBoard(board)) {
            return refuse(NOBODY);
        }
        pieceRow.cutFrom(now.meant, now.words);
        return bestExchange(hand, board);
    }

    public int climb(int hand, int board, int n) {
        if (noHand(hand) || noBoard(board)) {
            return refuse(NOBODY);
        }
        if (n < 1) {
            return refuse(BELOW);
        }
        if (n > CLIMB_MOST) {
            return refuse(ROOM);
        }
        pieceRow.cutFrom(now.meant, now.words);
        for (int made = 0; made < n; made++) {
            int best = bestExchange(hand, board);
            if (best < 0) {
                return made;
            }
            now.boards[board].swap(best / 100, best % 100);
        }
        return n;
    }

    public int summer(int start, int step, int gain) {
        if (start < 0 || step < 1 || gain < 1) {
            return refuse(BELOW);
        }
        if (start > START_MOST || step > STEP_MOST || gain > GAIN_MOST) {
            return refuse(ROOM);
        }
        int done = 0;
        for (int day = 0; day < SUMMER_DAYS; day++) {
            done += Math.min(start + step * day, OLD_A_DAY + gain);
            if (done >= OLD_A_DAY * (day + 1)) {
                return day;
            }
        }
        return NONE;
    }

    public int put(int v) {
        if (v < 0) {
            return refuse(BELOW);
        }
        if (v > GAP_MOST || now.row.size() >= ROW_ROOM) {
            return refuse(ROOM);
        }
        now.row.add(v);
        return now.row.size();
    }

    public int unput() {
        int had = now.row.size();
        now.row.clear();
        return had;
    }

    public int far(int hand, int board) {
        if (noHand(hand) || noBoard(board)) {
            return refuse(NOBODY);
        }
        strokes.layOut(now.meant, now.boards[board]);
        return strokes.farFrom(now.row, now.hands[hand]);
    }

    public int nearest(int board) {
        if (noBoard(board)) {
            return refuse(NOBODY);
        }
        if (now.row.size() != now.meant.size()) {
            return NONE;
        }
        strokes.layOut(now.meant, now.boards[board]);
        return handNearest();
    }

    public int span(int board, int law, boolean greatest) {
        if (noBoard(board)) {
            return refuse(NOBODY);
        }
        if (law < ALT || law > DOUBLE) {
            return refuse(OTHER);
        }
        strokes.layOut(now.meant, now.boards[board]);
        return strokes.outermost(now.row, law, greatest);
    }

    public int ache(int board, int finger) {
        if (noBoard(board) || finger < 0 || finger >= FINGERS) {
            return refuse(NOBODY);
        }
        strokes.layOut(now.meant, now.boards[board]);
        return strokes.acheOf(finger);
    }

    public int pauses(int board, int line, int rest) {
        if (noBoard(board)) {
            return refuse(NOBODY);
        }
        if (line < 1 || rest < 0) {
            return refuse(BELOW);
        }
        if (line > ACHE_LINE_MOST || rest > ACHE_LINE_MOST) {
            return refuse(ROOM);
        }
        strokes.layOut(now.meant, now.boards[board]);
        return strokes.pausesWith(line, rest);
    }

    public int pace(int hand, int board, int p, int mend) {
        if (noHand(hand) || noBoard(board)) {
            return refuse(NOBODY);
        }
        if (p < 1 || mend < 0) {
            return refuse(BELOW);
        }
        if (p > PACE_MOST || mend > MEND_MOST) {
            return refuse(ROOM);
        }
        return allAtPace(timeOfMeant(hand, board, false), p, mend);
    }

    public int soonest(int hand, int board, int mend) {
        if (noHand(hand) || noBoard(board)) {
            return refuse(NOBODY);
        }
        if (mend < 0) {
            return refuse(BELOW);
        }
        if (mend > MEND_MOST) {
            return refuse(ROOM);
        }
        int time = timeOfMeant(hand, board, false);
        int best = 1;
        int least = allAtPace(time, best, mend);
        for (int p = 2; p <= PACE_MOST; p++) {
            int all = allAtPace(time, p, mend);
            if (all < least) {
                least = all;
                best = p;
            }
        }
        return best;
    }

    public int image() {
        kept.copyFrom(now);
        imageTaken = true;
        return now.words.size();
    }

    public int on() {
        if (!imageTaken) {
            return refuse(STATE);
        }
        now.copyFrom(kept);
        return now.words.size();
    }

    public int count(int what) {
        switch (what) {
            case 0:
                return now.meant.size();
            case 1:
                return now.written.size();
            case 2:
                return now.words.size();
            case 3:
                return now.row.size();
            case 4:
                return tape.size();
            default:
                return refusalsOf(what);
        }
    }

    private int refusalsOf(int what) {
        if (what <= COUNT_REFUSALS || what > COUNT_REFUSALS + REFUSAL_KINDS) {
            return NONE;
        }
        return refused[what - COUNT_REFUSALS];
    }

    private int refuse(int number) {
        if (number < 0 && number >= -REFUSAL_KINDS) {
            refused[-number]++;
        }
        return number;
    }

    private static boolean noBoard(int board) {
        return board < 0 || board >= BOARDS;
    }

    private static boolean noHand(int hand) {
        return hand < 0 || hand >= HANDS;
    }

    private static boolean noKey(int key) {
        return key < 0 || key >= KEYS;
    }

    private int timeOfMeant(int hand, int board, boolean two) {
        if (noHand(hand) || noBoard(board)) {
            return NONE;
        }
        pieceRow.cutFrom(now.meant, now.words);
        strokes.layOut(now.meant, now.boards[board]);
        return strokes.timeBy(now.hands[hand], pieceRow, two);
    }

    /** The best EXCHANGE as 100 a and b; the PIECES are cut ahead of this, as no EXCHANGE changes them. */
    private int bestExchange(int hand, int board) {
        if (noHand(hand) || noBoard(board)) {
            return NONE;
        }
        strokes.layOut(now.meant, now.boards[board]);
        int least = strokes.timeBy(now.hands[hand], pieceRow, false);
        int best = NONE;
        for (int a = 0; a < KEYS; a++) {
            for (int b = a + 1; b < KEYS; b++) {
                // An EXCHANGE of two KEYS that MEANT does not use leaves TIME as it is.
                if (strokes.uses(a) || strokes.uses(b)) {
                    int time = strokes.timeExchanged(now.hands[hand], pieceRow, a, b);
                    if (time < least) {
                        least = time;
                        best = 100 * a + b;
                    }
                }
            }
        }
        return best;
    }

    /** The HAND whose GAPS are nearest to THE ROW; none if two are equally near. */
    private int handNearest() {
        int nearestHand = 0;
        int least = strokes.farFrom(now.row, now.hands[0]);
        for (int hand = 1; hand < HANDS; hand++) {
            int distance = strokes.farFrom(now.row, now.hands[hand]);
            if (distance < least) {
                least = distance;
                nearestHand = hand;
            } else if (distance == least) {
                nearestHand = NONE;
            }
        }
        return nearestHand;
    }

    private int allAtPace(int time, int p, int mend) {
        if (p < 1 || p > PACE_MOST) {
            return NONE;
        }
        int slips = now.meant.size() * p * p / 100;
        return time * 10 / (10 + p) + slips * mend;
    }

    /** A row of numbers with a room that is made once. */
    private static final class Series {
        private final int[] items;
        private int size;

        Series(int room) {
            items = new int[Math.max(room, 0)];
            size = 0;
        }

        int size() {
            return size;
        }

        int at(int i) {
            return i >= 0 && i < size ? items[i] : NONE;
        }

        void add(int v) {
            if (size < items.length) {
                items[size] = v;
                size++;
            }
        }

        void clear() {
            size = 0;
        }

        void copyFrom(Series other) {
            clear();
            for (int i = 0; i < other.size; i++) {
                add(other.at(i));
            }
        }
    }

    /** What stands on THE TAPE: the FAULTS of its signs, and the letters that they are. */
    private static final class Reading {
        static boolean isLetter(int sign) {
            return sign >= 'a' && sign <= 'z';
        }

        /** The place of the first byte that can not stand in a BOARD, or none. */
        static int boardFault(Series tape) {
            int came = 0;
            for (int place = 0; place < BOARD_SIGNS; place++) {
                int sign = tape.at(place);
                if (place % (COLUMNS + 1) == COLUMNS) {
                    if (sign != '/') {
                        return place;
                    }
                } else if (isLetter(sign)) {
                    int bit = 1 << (sign - 'a');
                    if ((came & bit) != 0) {
                        return place;
                    }
                    came |= bit;
                } else if (sign != '.') {
                    return place;
                }
            }
            return tape.size() > BOARD_SIGNS ? BOARD_SIGNS : NONE;
        }

        /** The place of the first byte that can not stand in a text, or none. */
        static int textFault(Series tape, boolean withTakenBack) {
            for (int place = 0; place < tape.size(); place++) {
                int sign = tape.at(place);
                if (!isLetter(sign) && !(withTakenBack && sign == '<')) {
                    return place;
                }
            }
            return NONE;
        }

        static int signsInto(Series text, Series tape) {
            text.clear();
            for (int place = 0; place < tape.size(); place++) {
                int sign = tape.at(place);
                text.add(isLetter(sign) ? sign - 'a' : TAKEN_BACK);
            }
            return text.size();
        }
    }

    /** Where KEYS lie, and which FINGERS they have. */
    private static final class Keys {
        private static final int[] FINGER_OF_COLUMN = {0, 1, 2, 3, 3, 4, 4, 5, 6, 7};
        private static final int FIRST_RIGHT_FINGER = 4;
        private static final int FIRST_RIGHT_COLUMN = 5;

        static int fingerBy(int key, boolean two) {
            if (noKey(key)) {
                return NONE;
            }
            int column = key % COLUMNS;
            if (two) {
                return column < FIRST_RIGHT_COLUMN ? 0 : FIRST_RIGHT_FINGER;
            }
            return FINGER_OF_COLUMN[column];
        }

        static boolean inRightHalf(int key) {
            return key % COLUMNS >= FIRST_RIGHT_COLUMN;
        }

        static int linesBetween(int from, int to) {
            return Math.abs(from / COLUMNS - to / COLUMNS);
        }

        static int columnsBetween(int from, int to) {
            return Math.abs(from % COLUMNS - to % COLUMNS);
        }

        /** Which of the LAWS ALT, SAME, DOUBLE, FINGER a GAP is by. */
        static int lawBetween(int from, int to, boolean two) {
            if (from == to) {
                return DOUBLE;
            }
            if (fingerBy(from, two) == fingerBy(to, two)) {
                return FINGER;
            }
            return inRightHalf(from) == inRightHalf(to) ? SAME : ALT;
        }

        static boolean beside(int one, int other) {
            return linesBetween(one, other) + columnsBetween(one, other) == 1;
        }

        static boolean mirrored(int one, int other) {
            return linesBetween(one, other) == 0 && one % COLUMNS + other % COLUMNS == COLUMNS - 1;
        }
    }

    /** A BOARD both ways: the letter of each KEY, the KEY of each letter. */
    private static final class Board {
        private final int[] letterOfKey;
        private final int[] keyOfLetter;

        Board() {
            letterOfKey = new int[KEYS];
            keyOfLetter = new int[LETTERS];
            empty();
        }

        private void empty() {
            for (int key = 0; key < KEYS; key++) {
                letterOfKey[key] = NONE;
            }
            for (int letter = 0; letter < LETTERS; letter++) {
                keyOfLetter[letter] = NONE;
            }
        }

        int letterAt(int key) {
            return noKey(key) ? NONE : letterOfKey[key];
        }

        int keyAt(int letter) {
            return letter < 0 || letter >= LETTERS ? NONE : keyOfLetter[letter];
        }

        /** THE TAPE has no FAULT as a BOARD: how many letters it has. */
        int readFrom(Series tape) {
            empty();
            int letters = 0;
            for (int key = 0; key < KEYS; key++) {
                int sign = tape.at(key + key / COLUMNS);
                if (Reading.isLetter(sign)) {
                    lay(key, sign - 'a');
                    letters++;
                }
            }
            return letters;
        }

        void swap(int a, int b) {
            if (!noKey(a) && !noKey(b)) {
                int letter = letterOfKey[a];
                lay(a, letterOfKey[b]);
                lay(b, letter);
            }
        }

        private void lay(int key, int letter) {
            if (noKey(key)) {
                return;
            }
            letterOfKey[key] = letter;
            if (letter >= 0 && letter < LETTERS) {
                keyOfLetter[letter] = key;
            }
        }

        void copyFrom(Board other) {
            empty();
            for (int key = 0; key < KEYS; key++) {
                lay(key, other.letterAt(key));
            }
        }
    }

    /** A HAND: its LAWS, and the GAPS that they make. */
    private static final class Hand {
        private static final int[] FIRST_LAWS = {100, 120, 90, 150, 20, 15};

        private final int[] laws;

        Hand() {
            laws = new int[LAWS];
            for (int law = 0; law < LAWS && law < FIRST_LAWS.length; law++) {
                laws[law] = FIRST_LAWS[law];
            }
        }

        int changeLaw(int law, int v) {
            if (law < 0 || law >= LAWS) {
                return NONE;
            }
            int was = laws[law];
            laws[law] = v;
            return was;
        }

        /** The GAP of a KEY behind another; each of them may be none. */
        int gapTo(int from, int to, boolean two) {
            if (noKey(to)) {
                return OFF_BOARD_GAP;
            }
            if (noKey(from)) {
                return laws[ALT];
            }
            switch (Keys.lawBetween(from, to, two)) {
                case DOUBLE:
                    return laws[DOUBLE];
                case FINGER:
                    return laws[FINGER]
                        + laws[STEP] * (Keys.columnsBetween(from, to) + Keys.linesBetween(from, to));
                case SAME:
                    return laws[SAME] + laws[LINE] * Keys.linesBetween(from, to);
                default:
                    return laws[ALT];
            }
        }

        void copyFrom(Hand other) {
            for (int law = 0; law < LAWS; law++) {
                laws[law] = other.laws[law];
            }
        }
    }

    /** The WORDS, and how often each was PRACTISED. */
    private static final class Words {
        private final Series[] letters;
        private final int[] practised;
        private int size;

        Words() {
            letters = new Series[WORDS];
            for (int word = 0; word < WORDS; word++) {
                letters[word] = new Series(WORD_MOST);
            }
            practised = new int[WORDS];
            size = 0;
        }

        int size() {
            return size;
        }

        private boolean noWord(int word) {
            return word < 0 || word >= size;
        }

        int addFrom(Series tape) {
            if (size >= WORDS) {
                return NONE;
            }
            Reading.signsInto(letters[size], tape);
            practised[size] = 0;
            size++;
            return size - 1;
        }

        int useMore(int word, int n) {
            if (noWord(word)) {
                return NONE;
            }
            practised[word] = Math.min(practised[word] + n, PRACTISED_MOST);
            return practised[word];
        }

        int lengthOf(int word) {
            return noWord(word) ? 1 : letters[word].size();
        }

        /** What a GAP inside this WORD is worth, in hundredths. */
        int hundredthsOf(int word) {
            if (noWord(word)) {
                return WHOLE;
            }
            return WHOLE - USE_HUNDREDTHS * Math.min(practised[word], USE_MOST);
        }

        /** The WORD that makes a PIECE at this place of a text, or none. */
        int longestAt(Series text, int place) {
            int longest = NONE;
            for (int word = 0; word < size; word++) {
                if (practised[word] >= PIECE_FROM && standsAt(letters[word], text, place)
                    && (longest < 0 || lengthOf(word) > lengthOf(longest))) {
                    longest = word;
                }
            }
            return longest;
        }

        private static boolean standsAt(Series word, Series text, int place) {
            for (int i = 0; i < word.size(); i++) {
                if (text.at(place + i) != word.at(i)) {
                    return false;
                }
            }
            return true;
        }

        void copyFrom(Words other) {
            size = other.size;
            for (int word = 0; word < WORDS; word++) {
                letters[word].copyFrom(other.letters[word]);
                practised[word] = other.practised[word];
            }
        }
    }

    /** All that THE IMAGE keeps. */
    private static final class State {
        final Board[] boards;
        final Hand[] hands;
        final Series meant;
        final Series written;
        final Words words;
        final Series row;

        State() {
            boards = new Board[BOARDS];
            for (int board = 0; board < BOARDS; board++) {
                boards[board] = new Board();
            }
            hands = new Hand[HANDS];
            for (int hand = 0; hand < HANDS; hand++) {
                hands[hand] = new Hand();
            }
            meant = new Series(TEXT_ROOM);
            written = new Series(TEXT_ROOM);
            words = new Words();
            row = new Series(ROW_ROOM);
        }

        void copyFrom(State other) {
            for (int board = 0; board < BOARDS; board++) {
                boards[board].copyFrom(other.boards[board]);
            }
            for (int hand = 0; hand < HANDS; hand++) {
                hands[hand].copyFrom(other.hands[hand]);
            }
            meant.copyFrom(other.meant);
            written.copyFrom(other.written);
            words.copyFrom(other.words);
            row.copyFrom(other.row);
        }
    }

    /** The PIECES of MEANT, cut anew for each question, in rows that are made once. */
    private static final class Pieces {
        private final Series begins;
        private final Series lengths;
        private final Series words;
        private final Series hundredths;

        Pieces() {
            begins = new Series(TEXT_ROOM);
            lengths = new Series(TEXT_ROOM);
            words = new Series(TEXT_ROOM);
            hundredths = new Series(TEXT_ROOM);
        }

        void cutFrom(Series meant, Words vocabulary) {
            begins.clear();
            lengths.clear();
            words.clear();
            hundredths.clear();
            for (int place = 0; place < meant.size(); place++) {
                // A place that an earlier PIECE has taken begins none.
                if (place >= hundredths.size()) {
                    int word = vocabulary.longestAt(meant, place);
                    begins.add(place);
                    lengths.add(vocabulary.lengthOf(word));
                    words.add(word);
                    addHundredths(vocabulary.lengthOf(word), vocabulary.hundredthsOf(word));
                }
            }
        }

        /** The first letter of a PIECE is no quicker than alone. */
        private void addHundredths(int length, int inside) {
            hundredths.add(WHOLE);
            for (int i = 1; i < length; i++) {
                hundredths.add(inside);
            }
        }

        int size() {
            return begins.size();
        }

        int beginAt(int i) {
            return begins.at(i);
        }

        int lengthAt(int i) {
            return lengths.at(i);
        }

        int wordAt(int i) {
            return words.at(i);
        }

        int hundredthsAt(int place) {
            return hundredths.at(place);
        }
    }

    /** MEANT as KEYS of a BOARD, one behind the other; a letter on no KEY is none. */
    private static final class Strokes {
        private final Series keys;
        private final boolean[] used;

        Strokes() {
            keys = new Series(TEXT_ROOM);
            used = new boolean[KEYS];
        }

        void layOut(Series meant, Board board) {
            keys.clear();
            for (int key = 0; key < KEYS; key++) {
                used[key] = false;
            }
            for (int i = 0; i < meant.size(); i++) {
                int key = board.keyAt(meant.at(i));
                keys.add(key);
                if (!noKey(key)) {
                    used[key] = true;
                }
            }
        }

        boolean uses(int key) {
            return !noKey(key) && used[key];
        }

        private int gapAt(int i, Hand hand) {
            return hand.gapTo(keys.at(i - 1), keys.at(i), false);
        }

        int timeBy(Hand hand, Pieces pieceRow, boolean two) {
            int time = 0;
            for (int i = 0; i < keys.size(); i++) {
                time += hand.gapTo(keys.at(i - 1), keys.at(i), two) * pieceRow.hundredthsAt(i) / WHOLE;
            }
            return time;
        }

        /** TIME as it would be behind the EXCHANGE of a and b; the BOARD need not change for that. */
        int timeExchanged(Hand hand, Pieces pieceRow, int a, int b) {
            int time = 0;
            int from = NONE;
            for (int i = 0; i < keys.size(); i++) {
                int to = keys.at(i);
                if (to == a) {
                    to = b;
                } else if (to == b) {
                    to = a;
                }
                time += hand.gapTo(from, to, false) * pieceRow.hundredthsAt(i) / WHOLE;
                from = to;
            }
            return time;
        }

        int farFrom(Series row, Hand hand) {
            int sum = 0;
            for (int i = 0; i < keys.size() && i < row.size(); i++) {
                sum += Math.abs(row.at(i) - gapAt(i, hand));
            }
            return sum;
        }

        /** Whether a GAP here shows this LAW alone. */
        private boolean showsLaw(int i, int law) {
            int from = keys.at(i - 1);
            int to = keys.at(i);
            if (noKey(from) || noKey(to) || Keys.lawBetween(from, to, false) != law) {
                return false;
            }
            return law != SAME || Keys.linesBetween(from, to) == 0;
        }

        int outermost(Series row, int law, boolean greatest) {
            int found = NONE;
            for (int i = 1; i < keys.size() && i < row.size(); i++) {
                if (showsLaw(i, law)) {
                    int v = row.at(i);
                    if (found < 0 || (greatest ? v > found : v < found)) {
                        found = v;
                    }
                }
            }
            return found;
        }

        private int acheAt(int i) {
            int key = keys.at(i);
            int ahead = keys.at(i - 1);
            if (noKey(key)) {
                return 0;
            }
            return !noKey(ahead) && Keys.lawBetween(ahead, key, false) == FINGER ? 3 : 1;
        }

        int acheOf(int finger) {
            int sum = 0;
            for (int i = 0; i < keys.size(); i++) {
                if (Keys.fingerBy(keys.at(i), false) == finger) {
                    sum += acheAt(i);
                }
            }
            return sum;
        }

        int pausesWith(int line, int rest) {
            int sum = 0;
            int pauseCount = 0;
            for (int i = 0; i < keys.size(); i++) {
                int adds = acheAt(i);
                int over = sum + adds - line;
                if (adds > line) {
                    return NONE;
                }
                if (over > 0) {
                    if (rest < 1) {
                        return NONE;
                    }
                    int needed = (over + rest - 1) / rest;
                    pauseCount += needed;
                    sum = Math.max(0, sum - needed * rest);
                }
                sum += adds;
            }
            return pauseCount;
        }
    }

    /** What one SLIP may have made WRITTEN of MEANT. */
    private static final class Slips {
        /** The first place in MEANT at which WRITTEN can be told as this KIND, or none. */
        static int placeOf(int kind, Series meant, Series written, Board board) {
            switch (kind) {
                case SLIP:
                    return slipPlace(meant, written);
                case SWAPPED:
                    return swappedPlace(meant, written);
                case DOUBLED:
                    return doubledPlace(meant, written);
                case MIRRORED:
                case NEAR:
                    return keyPlace(kind, meant, written, board);
                case EARLY:
                    return earlyPlace(meant, written);
                case LOST:
                    return lostPlace(meant, written);
                case CAUGHT:
                    return caughtPlace(meant, written);
                default:
                    return NONE;
            }
        }

        /** The first place at which the texts differ; the end of the shorter one, if none does. */
        private static int firstUnlike(Series meant, Series written) {
            int end = Math.min(meant.size(), written.size());
            for (int i = 0; i < end; i++) {
                if (meant.at(i) != written.at(i)) {
                    return i;
                }
            }
            return end;
        }

        /** Whether MEANT from one place on is WRITTEN from the other place on, to the ends of both. */
        private static boolean sameRest(Series meant, int meantFrom, Series written, int writtenFrom) {
            int rest = meant.size() - meantFrom;
            if (written.size() - writtenFrom != rest) {
                return false;
            }
            for (int i = 0; i < rest; i++) {
                if (meant.at(meantFrom + i) != written.at(writtenFrom + i)) {
                    return false;
                }
            }
            return true;
        }

        private static int slipPlace(Series meant, Series written) {
            int p = firstUnlike(meant, written);
            boolean slipped = p < meant.size() && p < written.size() && written.at(p) != TAKEN_BACK
                && sameRest(meant, p + 1, written, p + 1);
            return slipped ? p : NONE;
        }

        private static int swappedPlace(Series meant, Series written) {
            int p = firstUnlike(meant, written);
            boolean swapped = p + 1 < meant.size() && p + 1 < written.size()
                && written.at(p) == meant.at(p + 1) && written.at(p + 1) == meant.at(p)
                && sameRest(meant, p + 2, written, p + 2);
            return swapped ? p : NONE;
        }

        /** Both ways of DOUBLED change the middle one of three letters alone: they are SLIPS, too. */
        private static int doubledPlace(Series meant, Series written) {
            int p = slipPlace(meant, written);
            if (p < 1 || p + 1 >= meant.size()) {
                return NONE;
            }
            int twice = meant.at(p);
            int other = written.at(p);
            int ahead = meant.at(p - 1);
            int behind = meant.at(p + 1);
            boolean doubled = (ahead == twice && behind == other) || (ahead == other && behind == twice);
            return doubled ? p - 1 : NONE;
        }

        private static int keyPlace(int kind, Series meant, Series written, Board board) {
            int p = slipPlace(meant, written);
            int key = board.keyAt(meant.at(p));
            int slipKey = board.keyAt(written.at(p));
            if (p < 0 || noKey(key) || noKey(slipKey)) {
                return NONE;
            }
            boolean fits = kind == MIRRORED ? Keys.mirrored(key, slipKey) : Keys.beside(key, slipKey);
            return fits ? p : NONE;
        }

        private static int earlyPlace(Series meant, Series written) {
            int p = slipPlace(meant, written);
            if (p < 0) {
                return NONE;
            }
            boolean early = written.at(p) == meant.at(p + 1) || written.at(p) == meant.at(p + 2);
            return early ? p : NONE;
        }

        private static int lostPlace(Series meant, Series written) {
            int p = firstUnlike(meant, written);
            if (p >= meant.size() || !sameRest(meant, p + 1, written, p)) {
                return NONE;
            }
            // Of like letters in a row any may be the lost one: the first of them is told.
            int first = p;
            for (int i = p - 1; i >= 0 && meant.at(i) == meant.at(p); i--) {
                first = i;
            }
            return first;
        }

        private static int caughtPlace(Series meant, Series written) {
            int p = firstUnlike(meant, written);
            boolean caught = p < meant.size() && p + 1 < written.size()
                && written.at(p) != TAKEN_BACK && written.at(p + 1) == TAKEN_BACK
                && sameRest(meant, p, written, p + 2);
            return caught ? p : NONE;
        }
    }
}
