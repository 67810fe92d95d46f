/**
 * Promises 10 to 12: hash, markAt, aside. With K = 2 and one-letter words no HASH goes past the
 * modulus, so GRAMS of letters stand in the order of the alphabet.
 */
public final class MarksTest {
    private static final int BAD = BorrowedPages.BAD, NOT = BorrowedPages.NOT, NONE = BorrowedPages.NONE;
    private static final Check check = new Check();

    public static void main(String[] args) {
        promise10Hash();
        promise10LongTokens();
        promise11MarkAt();
        promise11Few();
        promise12Aside();
        promise12Lengths();
        promise12Languages();
        check.end();
    }

    private static void promise10Hash() {
        BorrowedPages pages = new BorrowedPages();
        Check.writeLetters(pages, 1, "abcz");
        check.due("hash 0", pages.hash(1, 0), Check.hash(1, 2, 3));
        check.due("hash 1", pages.hash(1, 1), Check.hash(2, 3, 26));
        check.due("hash 2", pages.hash(1, 2), NONE);
        check.due("hash greatest", pages.hash(1, Integer.MAX_VALUE), NONE);
        check.due("hash -1", pages.hash(1, -1), NONE);
        check.due("hash least", pages.hash(1, Integer.MIN_VALUE), NONE);
        check.due("hash of -1", pages.hash(-1, 0), BAD);
        check.due("hash of 6", pages.hash(6, 0), BAD);
        check.due("hash of nothing", pages.hash(0, 0), NOT);
        check.due("hash of nothing, 100", pages.hash(0, 100), NOT);
        check.due("hash -1 of nothing", pages.hash(0, -1), NOT);
        check.due("hash least of nothing", pages.hash(0, Integer.MIN_VALUE), NOT);
        check.due("hash -1 of -1", pages.hash(-1, -1), BAD);
        check.due("hash -1 of 6", pages.hash(6, -1), BAD);
        Check.writeLetters(pages, 0, "ab");
        check.due("hash of less than K", pages.hash(0, 0), NONE);
        pages.windows(2, 4);
        check.due("hash with K 2", pages.hash(0, 0), 7 * 131 * 131 + 131 + 2);
        check.due("hash 2 with K 2", pages.hash(1, 2), Check.hash(3, 26));
        check.due("hash 3 with K 2", pages.hash(1, 3), NONE);
    }

    private static void promise10LongTokens() {
        BorrowedPages pages = new BorrowedPages();
        Check.write(pages, 0, Check.PROSE, 0, "z99999 zzzzzz z99999 yyyyyy zebras");
        pages.windows(5, 1);
        check.due("hash of long tokens", pages.hash(0, 0), Check.hash(Check.prose("z99999"), Check.prose("zzzzzz"),
                Check.prose("z99999"), Check.prose("yyyyyy"), Check.prose("zebras")));
    }

    private static void promise11MarkAt() {
        BorrowedPages pages = new BorrowedPages();
        Check.writeLetters(pages, 0, "hgfedcba");
        Check.writeLetters(pages, 1, "abcdefgh");
        Check.writeLetters(pages, 2, "abababab");
        Check.writeLetters(pages, 3, "bcazzzzzzz");
        pages.windows(2, 3);
        check.dueMarks(pages, 0, 2, 3, 4, 5, 6);
        check.dueMarks(pages, 1, 0, 1, 2, 3, 4);
        check.dueMarks(pages, 2, 2, 4, 6);
        check.dueMarks(pages, 3, 2, 5, 6, 7, 8);
        pages.windows(2, 1);
        check.dueMarks(pages, 2, 0, 1, 2, 3, 4, 5, 6);
        pages.windows(2, 7);
        check.dueMarks(pages, 2, 6);
        check.dueMarks(pages, 3, 2);
        check.due("markAt -2", pages.markAt(0, -2), BAD);
        check.due("markAt greatest", pages.markAt(0, Integer.MAX_VALUE), BAD);
        check.due("markAt of -1", pages.markAt(-1, -1), BAD);
        check.due("markAt of 6", pages.markAt(6, 0), BAD);
        check.due("markAt of nothing", pages.markAt(5, -1), NOT);
        check.due("markAt of nothing, 100", pages.markAt(5, 100), NOT);
        check.due("markAt -2 of nothing", pages.markAt(5, -2), BAD);
    }

    private static void promise11Few() {
        BorrowedPages pages = new BorrowedPages();
        Check.writeLetters(pages, 0, "abab");
        Check.writeLetters(pages, 1, "ab");
        Check.writeLetters(pages, 2, "a");
        Check.writeLetters(pages, 3, "");
        pages.windows(2, 8);
        check.dueMarks(pages, 0, 2);
        check.dueMarks(pages, 1, 0);
        check.dueMarks(pages, 2);
        check.dueMarks(pages, 3);
    }

    private static void promise12Aside() {
        BorrowedPages pages = new BorrowedPages();
        Check.writeLetters(pages, 0, "abcdefgh");
        Check.writeLetters(pages, 1, "xcdefy");
        pages.windows(2, 3);
        check.dueAside(pages, 0, "00000000");
        pages.given(1);
        check.dueAside(pages, 0, "00111100");
        check.dueAside(pages, 1, "000000");
        pages.given(0);
        check.dueAside(pages, 0, "00000000");
        check.dueAside(pages, 1, "011110");
        pages.given(-1);
        check.dueAside(pages, 1, "000000");
        pages.given(0);
        pages.withdraw(0);
        check.dueAside(pages, 1, "000000");
        check.due("aside -1", pages.aside(1, -1), BAD);
        check.due("aside greatest", pages.aside(1, Integer.MAX_VALUE), BAD);
        check.due("aside of -1", pages.aside(-1, 0), BAD);
        check.due("aside of 6", pages.aside(6, 0), BAD);
        check.due("aside of nothing", pages.aside(0, 0), NOT);
        check.due("aside of nothing, 100", pages.aside(0, 100), NOT);
        check.due("aside -1 of nothing", pages.aside(0, -1), BAD);
    }

    private static void promise12Lengths() {
        BorrowedPages pages = new BorrowedPages();
        Check.writeLetters(pages, 0, "abcdefgh");
        Check.writeLetters(pages, 1, "abcdzbcdezefgh");
        pages.given(1);
        pages.windows(2, 3);
        check.dueAside(pages, 0, "11111111");
        pages.windows(3, 3);
        check.dueAside(pages, 0, "00000000");
        pages.windows(3, 2);
        check.dueAside(pages, 0, "11111111");
        pages.windows(2, 4);
        check.dueAside(pages, 0, "00000000");
        Check.writeLetters(pages, 1, "abcd");
        check.dueAside(pages, 0, "00000000");
        pages.windows(4, 1);
        check.dueAside(pages, 0, "11110000");
        Check.writeLetters(pages, 0, "dabcdabcdabc");
        check.dueAside(pages, 0, "011111111000");
        Check.writeLetters(pages, 0, "abc");
        check.dueAside(pages, 0, "000");
    }

    private static void promise12Languages() {
        BorrowedPages pages = new BorrowedPages();
        Check.write(pages, 0, Check.CODE, 0, "a b c d + 1");
        Check.write(pages, 1, Check.CODE, 0, "p q r s + 22");
        Check.write(pages, 2, Check.PROSE, 0, "f f f f f f f");
        pages.windows(3, 2);
        pages.given(1);
        check.dueAside(pages, 0, "111111");
        check.dueTokens(pages, 2, 6, 6, 6, 6, 6, 6, 6);
        pages.given(2);
        check.dueAside(pages, 0, "000000");
        Check.write(pages, 2, Check.CODE, 0, "f f f f");
        check.dueAside(pages, 0, "111100");
    }
}
