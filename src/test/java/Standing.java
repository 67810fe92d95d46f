import java.util.function.ToLongFunction;

/**
 * A shelf on which each number, each book, what is given and the tape have been set, and all that can be asked
 * of it. Books 0 to 3 stand there (2 in CODE, 3 given), 4 and 5 are nothing; all within 512 calls.
 */
final class Standing {
    static final int LEAST = Integer.MIN_VALUE, GREATEST = Integer.MAX_VALUE;
    static final int[] NO_BOOKS = {LEAST, -1, 6, GREATEST};

    /** Pairs that are BAD, though one of them (5) is nothing besides. */
    static final int[][] BAD_AND_NOTHING = {{5, 5}, {-1, 5}, {5, -1}, {5, 6}, {6, 5}, {LEAST, 5}, {5, GREATEST}};

    private Standing() {
    }

    static BorrowedPages shelf() {
        BorrowedPages pages = new BorrowedPages();
        pages.windows(2, 2);
        pages.gap(1);
        pages.link(3);
        Check.write(pages, 0, Check.PROSE, 7, "a b c d e f g");
        Check.write(pages, 1, Check.PROSE, 5, "a b c x e f g");
        Check.write(pages, 2, Check.CODE, 3, "if x = 1 end");
        Check.write(pages, 3, Check.PROSE, 0, "e f g");
        Check.typeAll(pages, "let y");
        pages.given(3);
        return pages;
    }

    /** Everything that the shelf answers, ending with the tape, which is read into book 5. */
    static String all(BorrowedPages pages) {
        StringBuilder told = new StringBuilder();
        int given = pages.given(-1);
        int gap = pages.gap(0);
        int link = pages.link(1);
        told.append(given).append(' ').append(gap).append(' ').append(link);
        pages.given(given);
        pages.gap(gap);
        pages.link(link);
        for (int what = 0; what < 4; what++) {
            told.append(" count ").append(pages.count(what));
        }
        for (int book = 0; book < 6; book++) {
            tell(told, pages, book);
        }
        told.append(" tape ").append(pages.book(5, Check.CODE, 0)).append(' ').append(pages.token(5, 0));
        return told.toString();
    }

    private static void tell(StringBuilder told, BorrowedPages pages, int book) {
        told.append(" book ").append(pages.group(book)).append(' ').append(pages.first(book));
        for (int i = -3; i < 8; i++) {
            told.append(' ').append(pages.token(book, i));
        }
        for (int i = 0; i < 7; i++) {
            told.append(' ').append(pages.hash(book, i)).append(' ').append(pages.aside(book, i));
        }
        for (int i = -1; i < 5; i++) {
            told.append(' ').append(pages.markAt(book, i));
        }
        for (int other = 0; other < book; other++) {
            told.append(' ').append(pages.runs(book, other)).append(' ').append(pages.score(book, other));
        }
    }

    /** Each call is refused as told, and leaves a shelf that answers as one on which it was not called. */
    @SafeVarargs
    static void dueUnchanged(Check check, long refusal, ToLongFunction<BorrowedPages>... calls) {
        String before = all(shelf());
        for (int i = 0; i < calls.length; i++) {
            BorrowedPages pages = shelf();
            check.due("refused call " + i, calls[i].applyAsLong(pages), refusal);
            check.due("unchanged by refused call " + i, all(pages).equals(before) ? 1 : 0, 1);
        }
    }
}
