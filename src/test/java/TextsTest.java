/** Promises 1 to 9: a new object, type, book, withdraw, token, windows, gap, link, given. */
public final class TextsTest {
    private static final int BAD = BorrowedPages.BAD, NOT = BorrowedPages.NOT, FULL = BorrowedPages.FULL;
    private static final Check check = new Check();

    public static void main(String[] args) {
        promise1NewObject();
        promise2Type();
        promise2TypeFull();
        promise3Book();
        promise3Prose();
        promise3Code();
        promise3FortyTokens();
        promise3InPlace();
        promise4Withdraw();
        promise5Token();
        promise6Windows();
        promise7Gap();
        promise8Link();
        promise9Given();
        check.end();
    }

    private static void promise1NewObject() {
        BorrowedPages pages = new BorrowedPages();
        for (int book = 0; book < 6; book++) {
            check.due("new: token", pages.token(book, -1), NOT);
            check.due("new: group", pages.group(book), NOT);
            check.due("new: withdraw", pages.withdraw(book), NOT);
        }
        for (int what = 0; what < 4; what++) {
            check.due("new: count(" + what + ")", pages.count(what), 0);
        }
        check.due("new: given", pages.given(-1), -1);
        check.due("new: gap", pages.gap(2), 2);
        check.due("new: link", pages.link(8), 8);
        check.due("new: tape", pages.book(0, 0, 0), 0);
        Check.writeLetters(pages, 1, "abcdefgh");
        // K = 3 and W = 4: six grams that rise, and so three windows with a mark each.
        check.dueMarks(pages, 1, 0, 1, 2);
    }

    private static void promise2Type() {
        BorrowedPages pages = new BorrowedPages();
        check.due("type n 0", pages.type('a', 0), BAD);
        check.due("type n 9", pages.type('a', 9), BAD);
        check.due("type n 9 of good bytes", pages.type(Check.packed("abcdefgh"), 9), BAD);
        check.due("type n least", pages.type('a', Integer.MIN_VALUE), BAD);
        check.due("type n greatest", pages.type('a', Integer.MAX_VALUE), BAD);
        check.due("type byte 31", pages.type(31, 1), BAD);
        check.due("type byte 127", pages.type(127, 1), BAD);
        check.due("type byte 255", pages.type(-1, 1), BAD);
        check.due("type byte 128", pages.type(0x8061, 2), BAD);
        check.due("type a bad byte of eight", pages.type(Check.packed("abc\ndefg"), 8), BAD);
        check.due("type a bad highest byte", pages.type(0x0061626364656667L, 8), BAD);
        check.due("type byte 32", pages.type(32, 1), 1);
        check.due("type byte 126", pages.type(126, 1), 2);
        check.due("type leaves higher bytes", pages.type(0xFF00FF6162L, 2), 4);
        check.due("type eight", pages.type(Check.packed("c d(e)f9"), 8), 12);
        check.due("book", pages.book(0, Check.CODE, 0), 7);
        check.dueTokens(pages, 0, 226, 6, 6, 140, 6, 141, 6);
    }

    private static void promise2TypeFull() {
        BorrowedPages pages = new BorrowedPages();
        for (int i = 1; i <= 29; i++) {
            check.due("type eight", pages.type(Check.packed("        "), 8), 8 * i);
        }
        check.due("type to 239", pages.type(Check.packed("a b c d"), 7), 239);
        check.due("type past 240", pages.type(Check.packed("ef"), 2), FULL);
        check.due("type BAD ahead of FULL", pages.type(Check.packed("e\n"), 2), BAD);
        check.due("type BAD n ahead of FULL", pages.type('e', 0), BAD);
        check.due("type to 240", pages.type('e', 1), 240);
        check.due("type at 240", pages.type('f', 1), FULL);
        check.due("book", pages.book(0, Check.PROSE, 0), 4);
        check.dueTokens(pages, 0, 1, 2, 3, Check.prose("de"));
        check.due("tape is empty then", pages.type('f', 1), 1);
    }

    private static void promise3Book() {
        BorrowedPages pages = new BorrowedPages();
        Check.typeAll(pages, "one two");
        check.due("book -1", pages.book(-1, 0, 0), BAD);
        check.due("book 6", pages.book(6, 0, 0), BAD);
        check.due("book language -1", pages.book(0, -1, 0), BAD);
        check.due("book language 2", pages.book(0, 2, 0), BAD);
        check.due("book day -1", pages.book(0, 0, -1), BAD);
        check.due("book day 10000", pages.book(0, 0, 10000), BAD);
        check.due("no book came", pages.count(0), 0);
        check.due("book: the tape stayed", pages.book(5, 0, 9999), 2);
        check.due("book: the tape is empty", pages.book(4, 1, 0), 0);
        check.due("two books", pages.count(0), 2);
        check.due("day", pages.token(5, -3), 9999);
        check.due("language", pages.token(4, -2), 1);
    }

    private static void promise3Prose() {
        BorrowedPages pages = new BorrowedPages();
        Check.write(pages, 0, Check.PROSE, 0, "The THE the, 12 a1 12ab ZZ9-zz9 abcdef abcdefg abcde9X_x 9");
        check.dueTokens(pages, 0, 27681, 27681, 27681, Check.prose("a1"), Check.prose("ab"), Check.prose("zz9"),
                Check.prose("zz9"), Check.prose("abcdef"), Check.prose("abcdef"), Check.prose("abcde9"), 24);
        Check.write(pages, 1, Check.PROSE, 0, "z99999 a0 z9999 . 77 !");
        check.dueTokens(pages, 1, Check.prose("z99999"), 1 * 37 + 27, Check.prose("z9999"));
        Check.write(pages, 2, Check.PROSE, 0, "if12for");
        check.dueTokens(pages, 2, Check.prose("if12fo"));
        Check.write(pages, 3, Check.PROSE, 0, "1234567 ?! 0");
        check.dueTokens(pages, 3);
    }

    private static void promise3Code() {
        BorrowedPages pages = new BorrowedPages();
        Check.write(pages, 0, Check.CODE, 0, "if for fn let end IF Fn lEt iff fo forx e nd endend");
        check.dueTokens(pages, 0, 1, 2, 3, 4, 5, 1, 3, 4, 6, 6, 6, 6, 6, 6);
        Check.write(pages, 1, Check.CODE, 0, "x1=12+3if4;~!_a 007");
        check.dueTokens(pages, 1, 6, 161, 7, 143, 7, 6, 159, 226, 133, 195, 6, 7);
        Check.write(pages, 2, Check.CODE, 0, "1if 2 3");
        check.dueTokens(pages, 2, 7, 1, 7, 7);
        Check.write(pages, 3, Check.CODE, 0, "[`{@/:^");
        check.dueTokens(pages, 3, 191, 196, 223, 164, 147, 158, 194);
    }

    private static void promise3FortyTokens() {
        BorrowedPages pages = new BorrowedPages();
        check.due("book of 50 words", Check.write(pages, 0, Check.PROSE, 0, "b ".repeat(39) + "c " + "d ".repeat(10)), 40);
        check.due("token 38", pages.token(0, 38), 2);
        check.due("token 39", pages.token(0, 39), 3);
        check.due("token 40", pages.token(0, 40), BAD);
        check.due("book of 240 signs", Check.write(pages, 1, Check.CODE, 0, "+".repeat(240)), 40);
        check.due("book of one long word", Check.write(pages, 2, Check.CODE, 0, "w".repeat(240)), 1);
        check.due("book of 39 and a last word", Check.write(pages, 3, Check.PROSE, 0, "b ".repeat(39) + "c"), 40);
    }

    private static void promise3InPlace() {
        BorrowedPages pages = new BorrowedPages();
        Check.writeLetters(pages, 0, "abcdefghij");
        Check.write(pages, 1, Check.PROSE, 3, "a b c d e f g h i j");
        pages.given(0);
        check.due("a book in place of a book", Check.write(pages, 0, Check.CODE, 77, "x+1"), 3);
        check.dueTokens(pages, 0, 6, 143, 7);
        check.due("day", pages.token(0, -3), 77);
        check.due("language", pages.token(0, -2), 1);
        check.due("books", pages.count(0), 2);
        check.due("still given", pages.given(0), 0);
        check.dueAside(pages, 1, "0000000000");
        Check.writeLetters(pages, 0, "bcdefgh");
        check.dueAside(pages, 1, "0111111100");
    }

    private static void promise4Withdraw() {
        BorrowedPages pages = new BorrowedPages();
        Check.writeLetters(pages, 2, "abc");
        Check.writeLetters(pages, 3, "abcd");
        pages.given(2);
        check.due("withdraw -1", pages.withdraw(-1), BAD);
        check.due("withdraw 6", pages.withdraw(6), BAD);
        check.due("withdraw 0", pages.withdraw(0), NOT);
        check.due("withdraw 3", pages.withdraw(3), 4);
        check.due("still given", pages.given(2), 2);
        check.due("withdraw 2", pages.withdraw(2), 3);
        check.due("withdraw 2 again", pages.withdraw(2), NOT);
        check.due("token of a withdrawn book", pages.token(2, -3), NOT);
        check.due("not given any more", pages.given(-1), -1);
        check.due("no books", pages.count(0), 0);
        Check.writeLetters(pages, 2, "");
        check.due("not given when written anew", pages.given(-1), -1);
        check.due("withdraw an empty book", pages.withdraw(2), 0);
        Check.typeAll(pages, "a b");
        check.due("withdraw leaves the tape", pages.withdraw(2), NOT);
        check.due("book", pages.book(2, 0, 0), 2);
    }

    private static void promise5Token() {
        BorrowedPages pages = new BorrowedPages();
        Check.write(pages, 1, Check.CODE, 41, "let a");
        check.due("token -3", pages.token(1, -3), 41);
        check.due("token -2", pages.token(1, -2), 1);
        check.due("token -1", pages.token(1, -1), 2);
        check.due("token 0", pages.token(1, 0), 4);
        check.due("token 1", pages.token(1, 1), 6);
        check.due("token 2", pages.token(1, 2), BAD);
        check.due("token least", pages.token(1, Integer.MIN_VALUE), BAD);
        check.due("token greatest", pages.token(1, Integer.MAX_VALUE), BAD);
        check.due("token of -1", pages.token(-1, 0), BAD);
        check.due("token of 6", pages.token(6, -1), BAD);
        check.due("token of nothing", pages.token(0, 0), NOT);
        check.due("token of nothing, 40", pages.token(0, 40), NOT);
        check.due("token -4 of nothing", pages.token(0, -4), BAD);
        Check.write(pages, 0, Check.PROSE, 0, "999999 Z99999");
        check.due("the greatest word", pages.token(0, 0), 27L * 37 * 37 * 37 * 37 * 37 - 1);
    }

    private static void promise6Windows() {
        BorrowedPages pages = new BorrowedPages();
        Check.writeLetters(pages, 0, "abcdefgh");
        check.due("windows k 1", pages.windows(1, 4), BAD);
        check.due("windows k 6", pages.windows(6, 4), BAD);
        check.due("windows w 0", pages.windows(3, 0), BAD);
        check.due("windows w 9", pages.windows(3, 9), BAD);
        check.due("K stayed 3", pages.hash(0, 5), Check.hash(6, 7, 8));
        check.due("K stayed 3", pages.hash(0, 6), BorrowedPages.NONE);
        check.due("windows 5, 1", pages.windows(5, 1), 1);
        check.due("W is 1", pages.markAt(0, -1), 4);
        check.due("windows, K good and W bad", pages.windows(2, 9), BAD);
        check.due("K stayed 5", pages.hash(0, 4), BorrowedPages.NONE);
        check.due("windows 2, 8", pages.windows(2, 8), 1);
        check.due("W is 8", pages.markAt(0, -1), 1);
        check.due("K is 2", pages.hash(0, 6), Check.hash(7, 8));
    }

    private static void promise7Gap() {
        BorrowedPages pages = new BorrowedPages();
        check.due("gap 0", pages.gap(0), 2);
        check.due("gap -1", pages.gap(-1), BAD);
        check.due("gap 21", pages.gap(21), BAD);
        check.due("gap 20", pages.gap(20), 0);
        check.due("gap 7", pages.gap(7), 20);
        check.due("gap 7", pages.gap(7), 7);
    }

    private static void promise8Link() {
        BorrowedPages pages = new BorrowedPages();
        check.due("link 1", pages.link(1), 8);
        check.due("link 0", pages.link(0), BAD);
        check.due("link 201", pages.link(201), BAD);
        check.due("link 200", pages.link(200), 1);
        check.due("link 9", pages.link(9), 200);
        check.due("link 9", pages.link(9), 9);
    }

    private static void promise9Given() {
        BorrowedPages pages = new BorrowedPages();
        Check.writeLetters(pages, 0, "abc");
        Check.writeLetters(pages, 5, "abc");
        check.due("given 1", pages.given(1), -12);
        check.due("given 6", pages.given(6), -11);
        check.due("given -2", pages.given(-2), -11);
        check.due("given 5", pages.given(5), -1);
        check.due("given 1 of nothing", pages.given(1), -12);
        check.due("given 0", pages.given(0), 5);
        check.due("given none", pages.given(-1), 0);
        check.due("given none again", pages.given(-1), -1);
    }
}
