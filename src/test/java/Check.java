import java.math.BigInteger;
import java.util.stream.IntStream;
import java.util.stream.Stream;

/** What every test of the project uses: texts onto the tape, and answers beside those that are due. */
class Check {
    static final int PROSE = 0, CODE = 1;

    private int asked = 0;
    private int wrong = 0;

    void due(String call, long got, long want) {
        asked++;
        if (got != want) {
            wrong++;
            System.out.println(call + " answered " + got + ", due is " + want);
        }
    }

    void dueTokens(BorrowedPages pages, int book, long... want) {
        due("token(" + book + ", -1)", pages.token(book, -1), want.length);
        for (int i = 0; i < want.length; i++) {
            due("token(" + book + ", " + i + ")", pages.token(book, i), want[i]);
        }
    }

    void dueMarks(BorrowedPages pages, int book, int... want) {
        due("markAt(" + book + ", -1)", pages.markAt(book, -1), want.length);
        for (int i = 0; i < want.length; i++) {
            due("markAt(" + book + ", " + i + ")", pages.markAt(book, i), want[i]);
        }
        due("markAt(" + book + ", " + want.length + ")", pages.markAt(book, want.length), BorrowedPages.BAD);
    }

    /** Each run as i, j, n. */
    void dueRuns(BorrowedPages pages, int a, int b, int[]... want) {
        due("runs(" + a + ", " + b + ")", pages.runs(a, b), want.length);
        for (int r = 0; r < want.length; r++) {
            for (int what = 0; what < 3; what++) {
                due("run(" + a + ", " + b + ", " + r + ", " + what + ")", pages.run(a, b, r, what), want[r][what]);
            }
        }
        due("run(" + a + ", " + b + ", " + want.length + ", 0)", pages.run(a, b, want.length, 0), BorrowedPages.BAD);
    }

    void dueChain(BorrowedPages pages, int a, int b, int... want) {
        due("chain(" + a + ", " + b + ", -1)", pages.chain(a, b, -1), want.length);
        for (int r = 0; r < want.length; r++) {
            due("chain(" + a + ", " + b + ", " + r + ")", pages.chain(a, b, r), want[r]);
        }
        due("chain(" + a + ", " + b + ", " + want.length + ")", pages.chain(a, b, want.length), BorrowedPages.BAD);
    }

    void dueAside(BorrowedPages pages, int book, String want) {
        for (int i = 0; i < want.length(); i++) {
            due("aside(" + book + ", " + i + ")", pages.aside(book, i), want.charAt(i) - '0');
        }
        due("aside(" + book + ", " + want.length() + ")", pages.aside(book, want.length()), BorrowedPages.BAD);
    }

    void end() {
        System.out.println(asked + " answers, " + wrong + " not as due");
        if (wrong != 0) {
            System.exit(1);
        }
    }

    /** The text as type() takes it: up to eight bytes, the first one highest. */
    static long packed(String text) {
        long w = 0;
        for (int i = 0; i < text.length(); i++) {
            w = w << 8 | text.charAt(i);
        }
        return w;
    }

    static void typeAll(BorrowedPages pages, String text) {
        for (int at = 0; at < text.length(); at += 8) {
            String part = text.substring(at, Math.min(at + 8, text.length()));
            pages.type(packed(part), part.length());
        }
    }

    static int write(BorrowedPages pages, int book, int language, int day, String text) {
        typeAll(pages, text);
        return pages.book(book, language, day);
    }

    /** A book of PROSE, each letter of the text one word, of day 0. */
    static int writeLetters(BorrowedPages pages, int book, String letters) {
        return write(pages, book, PROSE, 0, String.join(" ", letters.split("")));
    }

    /** A shelf with these K and W, and books 0, 1, .. of PROSE, each letter of a text one word. */
    static BorrowedPages letters(int k, int w, String... books) {
        BorrowedPages pages = new BorrowedPages();
        pages.windows(k, w);
        for (int book = 0; book < books.length; book++) {
            writeLetters(pages, book, books[book]);
        }
        return pages;
    }

    /** A shelf with K = 2 and W = 1, and books 0 and 1 of words that are told by their numbers. */
    static BorrowedPages wordBooks(int[] first, int[] second) {
        BorrowedPages pages = new BorrowedPages();
        pages.windows(2, 1);
        write(pages, 0, PROSE, 0, words(first));
        write(pages, 1, PROSE, 0, words(second));
        return pages;
    }

    /** A run as dueRuns() takes it. */
    static int[] run(int i, int j, int n) {
        return new int[] {i, j, n};
    }

    /** PROSE of words that are told by their numbers (0 .. 675), each number another TOKEN. */
    static String words(int... numbers) {
        StringBuilder text = new StringBuilder();
        for (int number : numbers) {
            text.append((char) ('a' + number / 26)).append((char) ('a' + number % 26)).append(' ');
        }
        return text.toString();
    }

    static int[] upTo(int from, int end) {
        return IntStream.range(from, end).toArray();
    }

    static int[] joined(int[]... parts) {
        return Stream.of(parts).flatMapToInt(IntStream::of).toArray();
    }

    /** The PROSE token of a word, reckoned apart from the class. */
    static long prose(String word) {
        long number = 0;
        for (int i = 0; i < Math.min(6, word.length()); i++) {
            number = number * 37 + "abcdefghijklmnopqrstuvwxyz0123456789".indexOf(word.charAt(i)) + 1;
        }
        return number;
    }

    /** The HASH of a GRAM, reckoned apart from the class. */
    static int hash(long... gram) {
        BigInteger h = BigInteger.valueOf(7);
        for (long one : gram) {
            h = h.multiply(BigInteger.valueOf(131)).add(BigInteger.valueOf(one));
        }
        return h.mod(BigInteger.valueOf(1000003)).intValue();
    }
}
