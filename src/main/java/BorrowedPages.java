/**
 * Borrowed pages: texts read into tokens, marks by windows, runs that two books share, the chain of
 * runs at the best score, what stands in a given book set aside, groups by links, and how often a
 * score comes by turning a text round.
 */
public final class BorrowedPages {
    public static final int BAD = -1, NOT = -2, FULL = -3, NONE = -4;

    private static final int MOST_BOOKS = 6;
    private static final int MOST_TOKENS = 40;
    private static final int MOST_BYTES = 240;
    private static final int BYTES_OF_LONG = 8;
    private static final int LAST_DAY = 9999;
    private static final int PROSE = 0, CODE = 1;
    private static final int NO_BOOK = -1;
    private static final int HOW_MANY = -1, ITS_LANGUAGE = -2, ITS_DAY = -3;
    private static final int FINE = 0;

    private final Tape tape = new Tape();
    private final Reader reader = new Reader();
    private final Shelf shelf = new Shelf();
    private final Comparison comparison = new Comparison();
    private final Groups groups = new Groups();

    public BorrowedPages() {
    }

    public int type(long w, int n) {
        if (n < 1 || n > BYTES_OF_LONG || !Tape.isText(w, n)) {
            return BAD;
        }
        if (!tape.hasRoomFor(n)) {
            return FULL;
        }
        tape.append(w, n);
        return tape.length;
    }

    public int book(int book, int language, int day) {
        if (!shelf.names(book) || language < PROSE || language > CODE || day < 0 || day > LAST_DAY) {
            return BAD;
        }
        Book written = shelf.books[book];
        written.open(language, day);
        reader.read(tape, written);
        tape.clear();
        return written.size;
    }

    public int withdraw(int book) {
        int refusal = refusalOfBook(book);
        if (refusal != FINE) {
            return refusal;
        }
        int size = shelf.books[book].size;
        shelf.books[book].close();
        if (shelf.givenNumber == book) {
            shelf.givenNumber = NO_BOOK;
        }
        return size;
    }

    public long token(int book, int i) {
        int refusal = i < ITS_DAY ? BAD : refusalOfBook(book);
        if (refusal != FINE) {
            return refusal;
        }
        Book asked = shelf.books[book];
        if (i == ITS_DAY) {
            return asked.day;
        }
        if (i == ITS_LANGUAGE) {
            return asked.language;
        }
        if (i == HOW_MANY) {
            return asked.size;
        }
        return i < asked.size ? asked.tokens[i] : BAD;
    }

    public int windows(int k, int w) {
        if (k < 2 || k > 5 || w < 1 || w > 8) {
            return BAD;
        }
        shelf.gramLength = k;
        shelf.windowLength = w;
        return 1;
    }

    public int gap(int g) {
        if (g < 0 || g > 20) {
            return BAD;
        }
        int before = shelf.gapCost;
        shelf.gapCost = g;
        return before;
    }

    public int link(int t) {
        if (t < 1 || t > 200) {
            return BAD;
        }
        int before = shelf.linkScore;
        shelf.linkScore = t;
        return before;
    }

    public int given(int book) {
        int refusal = book == NO_BOOK ? FINE : refusalOfBook(book);
        if (refusal != FINE) {
            // -1 is an answer here, so refusals stand ten lower.
            return refusal - 10;
        }
        int before = shelf.givenNumber;
        shelf.givenNumber = book;
        return before;
    }

    public int hash(int book, int gram) {
        int refusal = refusalOfBook(book);
        if (refusal != FINE) {
            return refusal;
        }
        Page page = comparison.pageOf(shelf, book);
        // NONE is hash's own word for a gram that there is not, so a number below 0 is not BAD here.
        return gram >= 0 && gram < page.grams ? page.hashes[gram] : NONE;
    }

    public int markAt(int book, int i) {
        int refusal = i < HOW_MANY ? BAD : refusalOfBook(book);
        if (refusal != FINE) {
            return refusal;
        }
        Page page = comparison.pageOf(shelf, book);
        return i == HOW_MANY ? page.howManyMarks() : page.gramOfMark(i);
    }

    public int aside(int book, int i) {
        int refusal = i < 0 ? BAD : refusalOfBook(book);
        if (refusal != FINE) {
            return refusal;
        }
        Page page = comparison.pageOf(shelf, book);
        if (i >= page.size) {
            return BAD;
        }
        return page.isAside[i] ? 1 : 0;
    }

    public int runs(int a, int b) {
        int refusal = refusalOfPair(a, b);
        if (refusal != FINE) {
            return refusal;
        }
        comparison.compare(shelf, a, b, 0);
        return comparison.runCount;
    }

    public int run(int a, int b, int r, int what) {
        int refusal = r < 0 || what < 0 || what > 2 ? BAD : refusalOfPair(a, b);
        if (refusal != FINE) {
            return refusal;
        }
        comparison.compare(shelf, a, b, 0);
        return comparison.partOfRun(r, what);
    }

    public int score(int a, int b) {
        int refusal = refusalOfPair(a, b);
        return refusal != FINE ? refusal : comparison.scoreOf(shelf, a, b, 0);
    }

    public int chain(int a, int b, int r) {
        int refusal = r < HOW_MANY ? BAD : refusalOfPair(a, b);
        if (refusal != FINE) {
            return refusal;
        }
        comparison.traceChain(shelf, a, b);
        if (r == HOW_MANY) {
            return comparison.chainLength;
        }
        return r < comparison.chainLength ? comparison.chainRuns[r] : BAD;
    }

    public int covered(int a, int b) {
        int refusal = refusalOfPair(a, b);
        if (refusal != FINE) {
            return refusal;
        }
        comparison.traceChain(shelf, a, b);
        return comparison.chainTokens;
    }

    public int group(int book) {
        int refusal = refusalOfBook(book);
        if (refusal != FINE) {
            return refusal;
        }
        groups.form(shelf, comparison);
        return groups.leaders[book];
    }

    public int first(int book) {
        int refusal = refusalOfBook(book);
        if (refusal != FINE) {
            return refusal;
        }
        groups.form(shelf, comparison);
        return groups.earliest(shelf, groups.leaders[book]);
    }

    public int count(int what) {
        if (what < 0 || what > 3) {
            return BAD;
        }
        if (what == 0) {
            return shelf.howManyBooks();
        }
        groups.form(shelf, comparison);
        if (what == 3) {
            return groups.links;
        }
        return what == 1 ? groups.howMany(1, MOST_BOOKS) : groups.howMany(1, 1);
    }

    public int chance(int a, int b) {
        int refusal = refusalOfPair(a, b);
        if (refusal != FINE) {
            return refusal;
        }
        int unturned = comparison.scoreOf(shelf, a, b, 0);
        int asGreat = 0;
        for (int turn = 0; turn < shelf.books[b].size; turn++) {
            if (comparison.scoreOf(shelf, a, b, turn) >= unturned) {
                asGreat++;
            }
        }
        return asGreat;
    }

    private int refusalOfBook(int book) {
        if (!shelf.names(book)) {
            return BAD;
        }
        return shelf.holds(book) ? FINE : NOT;
    }

    private int refusalOfPair(int a, int b) {
        if (!shelf.names(a) || !shelf.names(b) || a == b) {
            return BAD;
        }
        return shelf.holds(a) && shelf.holds(b) ? FINE : NOT;
    }

    /** The bytes typed since the last book was made. */
    private static final class Tape {
        final byte[] bytes = new byte[MOST_BYTES];
        int length = 0;

        static boolean isText(long w, int n) {
            for (int place = 0; place < n; place++) {
                int one = byteAt(w, place);
                if (one < 32 || one > 126) {
                    return false;
                }
            }
            return true;
        }

        static int byteAt(long w, int place) {
            return (int) (w >>> (8 * place)) & 255;
        }

        boolean hasRoomFor(int n) {
            return length + n <= MOST_BYTES;
        }

        void append(long w, int n) {
            for (int place = n - 1; place >= 0 && length < MOST_BYTES; place--) {
                bytes[length] = (byte) byteAt(w, place);
                length++;
            }
        }

        void clear() {
            length = 0;
        }
    }

    /** The tokens of one text; a book that is not held is nothing. */
    private static final class Book {
        final long[] tokens = new long[MOST_TOKENS];
        int size = 0;
        int language = PROSE;
        int day = 0;
        boolean held = false;

        void open(int itsLanguage, int itsDay) {
            size = 0;
            language = itsLanguage;
            day = itsDay;
            held = true;
        }

        void close() {
            size = 0;
            held = false;
        }

        void add(long oneToken) {
            if (size < MOST_TOKENS) {
                tokens[size] = oneToken;
                size++;
            }
        }
    }

    /** Reads a tape into a book's tokens, byte by byte. */
    private static final class Reader {
        private static final int NOTHING = 0, WORD = 1, NUMBER = 2;
        private static final int LETTERS = 26;
        private static final int COUNTED_LETTERS = 6;
        private static final int SPACE = 32;
        private static final int OTHER_WORD = 6, ANY_NUMBER = 7, FIRST_SIGN = 100;
        // if, for, fn, let, end as PROSE numbers: no letter is 0, so no other word, however long, has one of them.
        private static final int[] KEYWORDS = {339, 8787, 236, 16633, 7367};

        private int piece = NOTHING;
        private int wordLength = 0;
        private long wordNumber = 0;

        void read(Tape tape, Book into) {
            piece = NOTHING;
            for (int at = 0; at < tape.length; at++) {
                takeByte(tape.bytes[at], into);
            }
            endPiece(into);
        }

        private void takeByte(int one, Book into) {
            int value = valueOf(one);
            if (piece == WORD && value > 0) {
                lengthenWord(value);
            } else if (piece != NUMBER || value <= LETTERS) {
                endPiece(into);
                beginPiece(one, value, into);
            }
        }

        private void beginPiece(int one, int value, Book into) {
            if (value > LETTERS) {
                piece = NUMBER;
            } else if (value > 0) {
                piece = WORD;
                wordLength = 0;
                wordNumber = 0;
                lengthenWord(value);
            } else if (one != SPACE && into.language == CODE) {
                into.add(FIRST_SIGN + one);
            }
        }

        private void endPiece(Book into) {
            if (piece == WORD) {
                into.add(into.language == CODE ? codeOfWord() : wordNumber);
            } else if (piece == NUMBER && into.language == CODE) {
                into.add(ANY_NUMBER);
            }
            piece = NOTHING;
        }

        private void lengthenWord(int value) {
            if (wordLength < COUNTED_LETTERS) {
                wordNumber = wordNumber * 37 + value;
                wordLength++;
            }
        }

        private int codeOfWord() {
            for (int i = 0; i < KEYWORDS.length; i++) {
                if (wordNumber == KEYWORDS[i]) {
                    return i + 1;
                }
            }
            return OTHER_WORD;
        }

        /** 1 .. 26 of a letter, 27 .. 36 of a digit, 0 of all else. */
        private static int valueOf(int one) {
            if (one >= 'a' && one <= 'z') {
                return one - 'a' + 1;
            }
            if (one >= 'A' && one <= 'Z') {
                return one - 'A' + 1;
            }
            if (one >= '0' && one <= '9') {
                return one - '0' + LETTERS + 1;
            }
            return 0;
        }
    }

    /** The books, which one is given, and the numbers that comparing goes by. */
    private static final class Shelf {
        final Book[] books = new Book[MOST_BOOKS];
        int givenNumber = NO_BOOK;
        int gramLength = 3;
        int windowLength = 4;
        int gapCost = 2;
        int linkScore = 8;

        Shelf() {
            for (int i = 0; i < MOST_BOOKS; i++) {
                books[i] = new Book();
            }
        }

        boolean names(int number) {
            return number >= 0 && number < MOST_BOOKS;
        }

        boolean holds(int number) {
            return names(number) && books[number].held;
        }

        int howManyBooks() {
            int held = 0;
            for (int i = 0; i < MOST_BOOKS; i++) {
                if (books[i].held) {
                    held++;
                }
            }
            return held;
        }
    }

    /** A book laid open, turned round if asked, with its marks and what of it is set aside. */
    private static final class Page {
        final long[] tokens = new long[MOST_TOKENS];
        final int[] hashes = new int[MOST_TOKENS];
        final boolean[] isMark = new boolean[MOST_TOKENS];
        final boolean[] isAside = new boolean[MOST_TOKENS];
        private final int[] sharedLengths = new int[MOST_TOKENS];
        int size = 0;
        int language = PROSE;
        int grams = 0;

        void lay(Book from, int turn) {
            size = from.size;
            language = from.language;
            for (int i = 0; i < size; i++) {
                tokens[i] = from.tokens[(i + turn) % size];
                isAside[i] = false;
            }
        }

        void findMarks(int gramLength, int windowLength) {
            grams = Math.max(0, size - gramLength + 1);
            for (int i = 0; i < grams; i++) {
                hashes[i] = hashOfGram(i, gramLength);
                isMark[i] = false;
            }
            int window = Math.min(windowLength, grams);
            for (int end = window; end <= grams && window > 0; end++) {
                isMark[lastOfLeast(end - window, end)] = true;
            }
        }

        private int hashOfGram(int start, int gramLength) {
            long h = 7;
            for (int i = start; i < start + gramLength; i++) {
                h = (h * 131 + tokens[i]) % 1000003;
            }
            return (int) h;
        }

        private int lastOfLeast(int start, int end) {
            int least = start;
            for (int i = start + 1; i < end; i++) {
                if (hashes[i] <= hashes[least]) {
                    least = i;
                }
            }
            return least;
        }

        int howManyMarks() {
            int marks = 0;
            for (int i = 0; i < grams; i++) {
                if (isMark[i]) {
                    marks++;
                }
            }
            return marks;
        }

        int gramOfMark(int number) {
            int ahead = 0;
            for (int i = 0; i < grams; i++) {
                if (isMark[i]) {
                    if (ahead == number) {
                        return i;
                    }
                    ahead++;
                }
            }
            return BAD;
        }

        /** Sets aside every stretch of the told length that stands in the given page, too. */
        void setAside(Page givenPage, int length) {
            if (language != givenPage.language) {
                return;
            }
            for (int j = 0; j < givenPage.size; j++) {
                sharedLengths[j] = 0;
            }
            for (int i = 0; i < size; i++) {
                if (longestSharedUpTo(i, givenPage) >= length) {
                    for (int back = 0; back < length && back <= i; back++) {
                        isAside[i - back] = true;
                    }
                }
            }
        }

        /** How many tokens up to token i stand in the given page as well; called for i = 0, 1, .. in turn. */
        private int longestSharedUpTo(int i, Page givenPage) {
            int longest = 0;
            // From the end on, so that place j - 1 still tells of token i - 1.
            for (int j = givenPage.size - 1; j >= 0; j--) {
                int before = j > 0 ? sharedLengths[j - 1] : 0;
                sharedLengths[j] = tokens[i] == givenPage.tokens[j] ? before + 1 : 0;
                if (sharedLengths[j] > longest) {
                    longest = sharedLengths[j];
                }
            }
            return longest;
        }
    }

    /** Two books laid side by side: their runs and the best chain of these. */
    private static final class Comparison {
        // One row and one column more than tokens: a run may end where its book does.
        private static final int EDGE = MOST_TOKENS + 1;

        final int[] chainRuns = new int[MOST_TOKENS];
        int chainLength = 0;
        int chainTokens = 0;
        int runCount = 0;
        private final Page left = new Page();
        private final Page right = new Page();
        private final Page third = new Page();
        // How long the run is that begins at a cell (0: none does).
        private final int[] runLengths = new int[EDGE * EDGE];
        // The greatest score of chains that begin at a cell or behind it in both books (0: there are none).
        private final int[] best = new int[EDGE * EDGE];

        Page pageOf(Shelf shelf, int number) {
            layWithMarks(left, shelf, number, 0);
            if (shelf.holds(shelf.givenNumber) && shelf.givenNumber != number) {
                third.lay(shelf.books[shelf.givenNumber], 0);
                left.setAside(third, asideLength(shelf));
            }
            return left;
        }

        int scoreOf(Shelf shelf, int a, int b, int turn) {
            compare(shelf, a, b, turn);
            if (runCount == 0) {
                return 0;
            }
            findBest(shelf.gapCost);
            return best[0];
        }

        /** Finds the runs of book a and book b with b turned. */
        void compare(Shelf shelf, int a, int b, int turn) {
            layWithMarks(left, shelf, a, 0);
            layWithMarks(right, shelf, b, turn);
            setBothAside(shelf, a, b);
            runCount = 0;
            for (int i = 0; i < left.size; i++) {
                for (int j = 0; j < right.size; j++) {
                    int length = runLengthAt(i, j, shelf.gramLength);
                    runLengths[i * EDGE + j] = length;
                    if (length > 0) {
                        runCount++;
                    }
                }
            }
        }

        private static void layWithMarks(Page page, Shelf shelf, int number, int turn) {
            page.lay(shelf.books[number], turn);
            page.findMarks(shelf.gramLength, shelf.windowLength);
        }

        private static int asideLength(Shelf shelf) {
            return shelf.windowLength + shelf.gramLength - 1;
        }

        /** A given book that is turned is given as turned. */
        private void setBothAside(Shelf shelf, int a, int b) {
            int length = asideLength(shelf);
            if (shelf.givenNumber == a) {
                right.setAside(left, length);
            } else if (shelf.givenNumber == b) {
                left.setAside(right, length);
            } else if (shelf.holds(shelf.givenNumber)) {
                third.lay(shelf.books[shelf.givenNumber], 0);
                left.setAside(third, length);
                right.setAside(third, length);
            }
        }

        private int runLengthAt(int i, int j, int gramLength) {
            if (!agree(i, j) || agree(i - 1, j - 1)) {
                return 0;
            }
            int most = Math.min(left.size - i, right.size - j);
            int length = 1;
            while (length < most && agree(i + length, j + length)) {
                length++;
            }
            return sharesMark(i, j, length - gramLength) ? length : 0;
        }

        /** Whether the two books have one token, not set aside, at these places. */
        private boolean agree(int i, int j) {
            return i >= 0 && j >= 0 && left.tokens[i] == right.tokens[j] && left.language == right.language
                    && !left.isAside[i] && !right.isAside[j];
        }

        private boolean sharesMark(int i, int j, int lastOffset) {
            for (int offset = 0; offset <= lastOffset; offset++) {
                if (left.isMark[i + offset] && right.isMark[j + offset]) {
                    return true;
                }
            }
            return false;
        }

        private void findBest(int gapCost) {
            for (int i = left.size; i >= 0; i--) {
                for (int j = right.size; j >= 0; j--) {
                    best[i * EDGE + j] = i < left.size && j < right.size ? bestFrom(i, j, gapCost) : 0;
                }
            }
        }

        private int bestFrom(int i, int j, int gapCost) {
            int behind = Math.max(best[(i + 1) * EDGE + j], best[i * EDGE + j + 1]);
            int length = runLengths[i * EDGE + j];
            return length > 0 ? Math.max(behind, bestWithRun(i, j, length, gapCost)) : behind;
        }

        private int bestWithRun(int i, int j, int length, int gapCost) {
            return length + Math.max(0, best[(i + length) * EDGE + j + length] - gapCost);
        }

        /** Part 0, 1, 2 of a run: i, j, n. */
        int partOfRun(int number, int part) {
            int ahead = 0;
            for (int i = 0; i < left.size; i++) {
                for (int j = 0; j < right.size; j++) {
                    int length = runLengths[i * EDGE + j];
                    if (length > 0) {
                        if (ahead == number) {
                            return part == 0 ? i : part == 1 ? j : length;
                        }
                        ahead++;
                    }
                }
            }
            return BAD;
        }

        /** Takes at each step the first run from which what is still wanted can be had. */
        void traceChain(Shelf shelf, int a, int b) {
            int wanted = scoreOf(shelf, a, b, 0);
            int fromI = 0;
            int fromJ = 0;
            int number = 0;
            chainLength = 0;
            chainTokens = 0;
            for (int i = 0; i < left.size; i++) {
                for (int j = 0; j < right.size; j++) {
                    int length = runLengths[i * EDGE + j];
                    if (length == 0) {
                        continue;
                    }
                    if (wanted > 0 && i >= fromI && j >= fromJ
                            && bestWithRun(i, j, length, shelf.gapCost) == wanted) {
                        addToChain(number, length);
                        fromI = i + length;
                        fromJ = j + length;
                        int behind = best[fromI * EDGE + fromJ];
                        // At a like score a run goes ahead of none, so a rest that just pays its gap is taken.
                        wanted = behind >= shelf.gapCost ? behind : 0;
                    }
                    number++;
                }
            }
        }

        private void addToChain(int number, int length) {
            if (chainLength < MOST_TOKENS) {
                chainRuns[chainLength] = number;
                chainLength++;
                chainTokens += length;
            }
        }
    }

    /** Books that hang together by links. */
    private static final class Groups {
        // Of each book the least book of its group; -1 of a book that is nothing.
        final int[] leaders = new int[MOST_BOOKS];
        int links = 0;

        void form(Shelf shelf, Comparison comparison) {
            links = 0;
            for (int i = 0; i < MOST_BOOKS; i++) {
                leaders[i] = shelf.holds(i) ? i : NO_BOOK;
            }
            for (int a = 0; a < MOST_BOOKS; a++) {
                for (int b = a + 1; b < MOST_BOOKS; b++) {
                    if (shelf.holds(a) && shelf.holds(b)
                            && comparison.scoreOf(shelf, a, b, 0) >= shelf.linkScore) {
                        links++;
                        join(leaders[a], leaders[b]);
                    }
                }
            }
        }

        private void join(int one, int other) {
            int leader = Math.min(one, other);
            for (int i = 0; i < MOST_BOOKS; i++) {
                if (leaders[i] == one || leaders[i] == other) {
                    leaders[i] = leader;
                }
            }
        }

        /** How many groups have so many books. */
        int howMany(int fewest, int most) {
            int groups = 0;
            for (int i = 0; i < MOST_BOOKS; i++) {
                int members = leaders[i] == i ? membersOf(i) : 0;
                if (members >= fewest && members <= most) {
                    groups++;
                }
            }
            return groups;
        }

        private int membersOf(int leader) {
            int members = 0;
            for (int i = 0; i < MOST_BOOKS; i++) {
                if (leaders[i] == leader) {
                    members++;
                }
            }
            return members;
        }

        int earliest(Shelf shelf, int leader) {
            int found = NO_BOOK;
            for (int i = 0; i < MOST_BOOKS; i++) {
                if (leaders[i] == leader && i != shelf.givenNumber
                        && (found == NO_BOOK || shelf.books[i].day < shelf.books[found].day)) {
                    found = i;
                }
            }
            return found == NO_BOOK ? shelf.givenNumber : found;
        }
    }
}
