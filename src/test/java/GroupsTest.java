/** Promises 18 to 21: group, first, count, chance. */
public final class GroupsTest {
    private static final int BAD = BorrowedPages.BAD, NOT = BorrowedPages.NOT;
    private static final Check check = new Check();

    public static void main(String[] args) {
        promise18Group();
        promise18Threshold();
        promise19First();
        promise19Given();
        promise20Count();
        promise21Chance();
        promise21Anew();
        check.end();
    }

    /** Books 0 to 5 linked as 5 - 1 - 3 and 2 - 4, with 0 alone. */
    private static BorrowedPages shelf() {
        BorrowedPages pages = new BorrowedPages();
        write(pages, 0, 50, "zyxwvutsrq");
        write(pages, 1, 40, "abcdefghijklmnop");
        write(pages, 2, 30, "aabbccddeeff");
        write(pages, 3, 20, "ijklmnop");
        write(pages, 4, 30, "bbccddeeffgg");
        write(pages, 5, 20, "abcdefgh");
        return pages;
    }

    private static void write(BorrowedPages pages, int book, int day, String letters) {
        Check.write(pages, book, Check.PROSE, day, String.join(" ", letters.split("")));
    }

    private static void dueGroups(BorrowedPages pages, int... want) {
        for (int book = 0; book < want.length; book++) {
            check.due("group(" + book + ")", pages.group(book), want[book]);
        }
    }

    private static void dueFirsts(BorrowedPages pages, int... want) {
        for (int book = 0; book < want.length; book++) {
            check.due("first(" + book + ")", pages.first(book), want[book]);
        }
    }

    private static void dueCounts(BorrowedPages pages, int... want) {
        for (int what = 0; what < 4; what++) {
            check.due("count(" + what + ")", pages.count(what), want[what]);
        }
    }

    private static void promise18Group() {
        BorrowedPages pages = shelf();
        check.due("score 3, 5", pages.score(3, 5), 0);
        dueGroups(pages, 0, 1, 2, 1, 2, 1);
        pages.withdraw(1);
        dueGroups(pages, 0, NOT, 2, 3, 2, 5);
        pages.withdraw(2);
        dueGroups(pages, 0, NOT, NOT, 3, 4, 5);
        check.due("group -1", pages.group(-1), BAD);
        // 0 - 3, then 1 - 2, then 2 - 3: two groups that come together late.
        write(pages, 0, 0, "abcdefgh");
        write(pages, 1, 0, "qrstuvwx");
        write(pages, 2, 0, "ijklmnopqrstuvwx");
        write(pages, 3, 0, "abcdefghijklmnop");
        write(pages, 4, 0, "");
        write(pages, 5, 0, "");
        dueGroups(pages, 0, 0, 0, 0, 4, 5);
        dueCounts(pages, 6, 3, 2, 3);
        check.due("group 6", pages.group(6), BAD);
    }

    private static void promise18Threshold() {
        BorrowedPages pages = shelf();
        check.due("score 1, 3", pages.score(1, 3), 8);
        check.due("score 2, 4", pages.score(2, 4), 10);
        pages.link(9);
        dueGroups(pages, 0, 1, 2, 3, 2, 5);
        pages.link(10);
        dueGroups(pages, 0, 1, 2, 3, 2, 5);
        pages.link(11);
        dueGroups(pages, 0, 1, 2, 3, 4, 5);
        pages.link(1);
        dueGroups(pages, 0, 1, 2, 1, 2, 1);
    }

    private static void promise19First() {
        BorrowedPages pages = shelf();
        dueFirsts(pages, 0, 3, 2, 3, 2, 3);
        write(pages, 5, 19, "abcdefgh");
        write(pages, 4, 29, "bbccddeeffgg");
        dueFirsts(pages, 0, 5, 4, 5, 4, 5);
        pages.withdraw(1);
        dueFirsts(pages, 0, NOT, 4, 3, 4, 5);
        check.due("first -1", pages.first(-1), BAD);
        check.due("first 6", pages.first(6), BAD);
    }

    private static void promise19Given() {
        BorrowedPages pages = shelf();
        pages.given(0);
        dueFirsts(pages, 0, 3, 2, 3, 2, 3);
        pages.given(3);
        // Book 3 has the least day, but its text is set aside in book 1, so it stands alone.
        dueGroups(pages, 0, 1, 2, 3, 2, 1);
        dueFirsts(pages, 0, 5, 2, 3, 2, 5);
        BorrowedPages near = new BorrowedPages();
        near.windows(3, 8);
        write(near, 0, 9, "abcdefgh");
        write(near, 1, 5, "abcdefgh");
        write(near, 2, 7, "abcdefgh");
        dueFirsts(near, 1, 1, 1);
        near.given(1);
        check.due("shared stretches too short to be set aside", near.aside(0, 0), 0);
        dueGroups(near, 0, 0, 0);
        dueFirsts(near, 2, 2, 2);
        near.withdraw(2);
        dueFirsts(near, 0, 0);
        near.withdraw(0);
        check.due("the given one alone", near.first(1), 1);
    }

    private static void promise20Count() {
        BorrowedPages pages = shelf();
        dueCounts(pages, 6, 3, 1, 3);
        pages.withdraw(1);
        dueCounts(pages, 5, 4, 3, 1);
        write(pages, 1, 0, "bbccddeeff");
        dueCounts(pages, 6, 4, 3, 3);
        pages.link(200);
        dueCounts(pages, 6, 6, 6, 0);
        check.due("count -1", pages.count(-1), BAD);
        check.due("count 4", pages.count(4), BAD);
    }

    private static void promise21Chance() {
        BorrowedPages pages = new BorrowedPages();
        pages.windows(2, 1);
        Check.writeLetters(pages, 0, "abcd");
        Check.writeLetters(pages, 1, "abcd");
        Check.writeLetters(pages, 2, "bcdxa");
        Check.writeLetters(pages, 3, "aaaa");
        Check.writeLetters(pages, 4, "");
        check.due("chance of a whole", pages.chance(0, 1), 1);
        // bcdxa, xabcd: 3, 4 and abcdx: 4; cdxab, dxabc: 2, 3.
        check.due("chance of a part", pages.chance(0, 2), 4);
        check.due("the book stays as it was", pages.token(2, 0), 2);
        // abcd: 3; bcda: 3; cdab, dabc: 2.
        check.due("chance the other way", pages.chance(2, 0), 2);
        check.due("chance without runs", pages.chance(0, 3), 4);
        check.due("chance of an empty book", pages.chance(0, 4), 0);
        check.due("chance against an empty book", pages.chance(4, 0), 4);
    }

    private static void promise21Anew() {
        BorrowedPages pages = new BorrowedPages();
        pages.windows(3, 2);
        Check.writeLetters(pages, 0, "edabc");
        Check.writeLetters(pages, 1, "abcxed");
        check.due("score", pages.score(0, 1), 3);
        check.due("chance, none given", pages.chance(0, 1), 5);
        // Turned so that four of edabc stand together, the given book sets them aside in the other one.
        pages.given(1);
        check.due("score beside a given book", pages.score(0, 1), 3);
        check.due("chance of a given book", pages.chance(0, 1), 1);
        pages.given(0);
        check.due("chance beside a given book", pages.chance(0, 1), 1);
        Check.writeLetters(pages, 2, "edabc");
        pages.given(2);
        check.due("chance beside a third book given", pages.chance(0, 1), 6);
    }
}
