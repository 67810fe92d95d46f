/** Promises 18 to 21 at their bounds: group, first, count, chance. */
final class BoundariesOfGroups {
    private static final int BAD = -1, NOT = -2;
    private static final int LEAST = Standing.LEAST, GREATEST = Standing.GREATEST;
    private static final int[] NO_BOOKS = Standing.NO_BOOKS;

    private final Sentences doc;

    BoundariesOfGroups(Sentences doc) {
        this.doc = doc;
    }

    void ask() {
        group();
        groupTOrMore();
        groupHangsTogether();
        groupLeast();
        groupBad();
        groupNot();
        groupRefusedChangesNothing();
        first();
        firstLeastDay();
        firstOfLikeDays();
        firstGivenLeftOut();
        firstIfAnother();
        firstBad();
        firstNot();
        firstRefusedChangesNothing();
        countBooks();
        countGroups();
        countLone();
        countLinks();
        countBad();
        countRefusedChangesNothing();
        chance();
        chanceTurnings();
        chanceAsMany();
        chanceAheadComesBehind();
        chanceAsGreat();
        chanceMarksAnew();
        chanceAsideAnew();
        chanceRefused();
        chanceFirstNamed();
        chanceRefusedChangesNothing();
    }

    /** Six books, each of which shares eight words with the next one of this order, and nothing with others. */
    private static BorrowedPages row(int... order) {
        BorrowedPages pages = new BorrowedPages();
        for (int at = 0; at < order.length; at++) {
            Check.write(pages, order[at], Check.PROSE, 0, Check.words(Check.upTo(8 * at, 8 * at + 16)));
        }
        return pages;
    }

    /** Books of these days and of one text, too short for any of it to be set aside. */
    private static BorrowedPages alike(int... days) {
        BorrowedPages pages = new BorrowedPages();
        pages.windows(2, 8);
        for (int book = 0; book < days.length; book++) {
            Check.write(pages, book, Check.PROSE, days[book], "a b c d e f g h");
        }
        return pages;
    }

    private void dueGroups(BorrowedPages pages, int... want) {
        for (int book = 0; book < want.length; book++) {
            doc.due("group(" + book + ")", pages.group(book), want[book]);
        }
    }

    private void dueFirsts(BorrowedPages pages, int... want) {
        for (int book = 0; book < want.length; book++) {
            doc.due("first(" + book + ")", pages.first(book), want[book]);
        }
    }

    // ---- promise 18

    private void group() {
        doc.sentence(18, "The GROUP of a BOOK.");
        BorrowedPages lone = Check.letters(2, 1, "", "a", "bc", "de", "", "fg");
        dueGroups(lone, 0, 1, 2, 3, 4, 5);
        dueGroups(alike(0, 0, 0, 0, 0, 0), 0, 0, 0, 0, 0, 0);
        dueGroups(Check.letters(2, 1, "abcdefgh"), 0, NOT, NOT, NOT, NOT, NOT);
    }

    private void groupTOrMore() {
        doc.sentence(18, "LINKED are two BOOKS of a SCORE of T (1 .. 200; 8 at first) or more.");
        BorrowedPages eight = Check.letters(2, 1, "abcdefghx", "abcdefghy");
        doc.due("score", eight.score(0, 1), 8);
        dueGroups(eight, 0, 0);
        dueGroups(Check.letters(2, 1, "abcdefgx", "abcdefgy"), 0, 1);
        eight.link(9);
        dueGroups(eight, 0, 1);
        eight.link(7);
        dueGroups(eight, 0, 0);
        BorrowedPages none = Check.letters(2, 1, "abcd", "efgh", "ef");
        none.link(1);
        dueGroups(none, 0, 1, 1);
        none.link(2);
        dueGroups(none, 0, 1, 1);
        none.link(3);
        dueGroups(none, 0, 1, 2);
        BorrowedPages forty = Check.letters(2, 1, "a".repeat(40), "a".repeat(40));
        forty.link(40);
        dueGroups(forty, 0, 0);
        forty.link(41);
        dueGroups(forty, 0, 1);
        forty.link(200);
        dueGroups(forty, 0, 1);
        // THE SCORE, less G, is what counts: 4 and 5 TOKENS less 2.
        BorrowedPages gap = Check.letters(2, 1, "abcdxefghi", "abcdyefghi");
        dueGroups(gap, 0, 1);
        gap.gap(1);
        dueGroups(gap, 0, 0);
    }

    private void groupHangsTogether() {
        doc.sentence(18, "A GROUP: BOOKS that hang together by LINKS");
        dueGroups(row(0, 1, 2, 3, 4, 5), 0, 0, 0, 0, 0, 0);
        dueGroups(row(5, 4, 3, 2, 1, 0), 0, 0, 0, 0, 0, 0);
        dueGroups(row(3, 5, 1, 4, 0, 2), 0, 0, 0, 0, 0, 0);
        dueGroups(row(4, 1, 5, 0, 3, 2), 0, 0, 0, 0, 0, 0);
        // A LINK taken out of the row leaves two GROUPS.
        BorrowedPages pages = row(3, 5, 1, 4, 0, 2);
        doc.due("no link from end to end", pages.score(3, 2), 0);
        pages.withdraw(1);
        dueGroups(pages, 0, NOT, 0, 3, 0, 3);
        pages.withdraw(0);
        dueGroups(pages, NOT, NOT, 2, 3, 4, 3);
    }

    private void groupLeast() {
        doc.sentence(18, "it is told by its least BOOK.");
        BorrowedPages pages = row(5, 2, 4);
        dueGroups(pages, NOT, NOT, 2, NOT, 2, 2);
        pages.withdraw(2);
        dueGroups(pages, NOT, NOT, NOT, NOT, 4, 5);
        Check.write(pages, 0, Check.PROSE, 0, Check.words(Check.upTo(0, 30)));
        dueGroups(pages, 0, NOT, NOT, NOT, 0, 0);
        // Neither the DAY nor what is GIVEN changes which one is the least.
        BorrowedPages days = alike(9, 3, 1);
        days.given(0);
        dueGroups(days, 0, 0, 0);
    }

    private void groupBad() {
        doc.sentence(18, "BAD");
        BorrowedPages pages = Standing.shelf();
        for (int book : NO_BOOKS) {
            doc.due("group " + book, pages.group(book), BAD);
        }
    }

    private void groupNot() {
        doc.sentence(18, "NOT");
        BorrowedPages pages = Standing.shelf();
        pages.withdraw(0);
        doc.due("group of a withdrawn book", pages.group(0), NOT);
        doc.due("group of no book yet", pages.group(5), NOT);
        pages.book(5, 0, 0);
        doc.due("group of an empty book", pages.group(5), 5);
    }

    private void groupRefusedChangesNothing() {
        doc.sentence(18, Sentences.UNCHANGED);
        Standing.dueUnchanged(doc, BAD, p -> p.group(-1), p -> p.group(6));
        Standing.dueUnchanged(doc, NOT, p -> p.group(4));
    }

    // ---- promise 19

    private void first() {
        doc.sentence(19, "FIRST of the GROUP of a BOOK.");
        dueFirsts(alike(3, 2, 1, 4), 2, 2, 2, 2, NOT, NOT);
        BorrowedPages lone = Check.letters(2, 1, "", "a", "bc", "de", "", "fg");
        dueFirsts(lone, 0, 1, 2, 3, 4, 5);
        // Of two GROUPS each has its own.
        BorrowedPages two = alike(3, 2, 1);
        Check.write(two, 3, Check.PROSE, 0, "q r s t u v w x");
        Check.write(two, 4, Check.PROSE, 0, "q r s t u v w x");
        dueFirsts(two, 2, 2, 2, 3, 3);
    }

    private void firstLeastDay() {
        doc.sentence(19, "FIRST of a GROUP is the BOOK with the least DAY");
        dueFirsts(alike(9999, 9998), 1, 1);
        dueFirsts(alike(1, 0), 1, 1);
        dueFirsts(alike(0, 1), 0, 0);
        dueFirsts(alike(9999, 0), 1, 1);
        dueFirsts(alike(5, 4, 3, 2, 1, 0), 5, 5, 5, 5, 5, 5);
        dueFirsts(alike(9999), 0);
    }

    private void firstOfLikeDays() {
        doc.sentence(19, "(of like ones the least)");
        dueFirsts(alike(7, 7), 0, 0);
        dueFirsts(alike(7, 5, 5, 5), 1, 1, 1, 1);
        dueFirsts(alike(0, 0, 0, 0, 0, 0), 0, 0, 0, 0, 0, 0);
        dueFirsts(alike(9999, 9999), 0, 0);
    }

    private void firstGivenLeftOut() {
        doc.sentence(19, "THE GIVEN one left out");
        BorrowedPages pages = alike(9, 5, 7);
        dueFirsts(pages, 1, 1, 1);
        pages.given(1);
        doc.due("none of it is set aside", pages.aside(0, 0), 0);
        dueGroups(pages, 0, 0, 0);
        dueFirsts(pages, 2, 2, 2);
        pages.given(2);
        dueFirsts(pages, 1, 1, 1);
        pages.given(-1);
        dueFirsts(pages, 1, 1, 1);
        // Of like DAYS the least but the GIVEN one.
        BorrowedPages like = alike(3, 3, 3);
        like.given(0);
        dueFirsts(like, 1, 1, 1);
        // A GIVEN BOOK of another GROUP matters to no other one.
        Check.write(like, 3, Check.PROSE, 0, "q r s t u v w x");
        like.given(3);
        dueFirsts(like, 0, 0, 0, 3);
    }

    private void firstIfAnother() {
        doc.sentence(19, "if there is another one.");
        BorrowedPages pages = alike(9, 5);
        pages.given(1);
        dueFirsts(pages, 0, 0);
        pages.withdraw(0);
        dueFirsts(pages, NOT, 1);
        BorrowedPages lone = alike(4);
        lone.given(0);
        dueFirsts(lone, 0);
    }

    private void firstBad() {
        doc.sentence(19, "BAD");
        BorrowedPages pages = Standing.shelf();
        for (int book : NO_BOOKS) {
            doc.due("first " + book, pages.first(book), BAD);
        }
    }

    private void firstNot() {
        doc.sentence(19, "NOT");
        BorrowedPages pages = Standing.shelf();
        pages.withdraw(0);
        doc.due("first of a withdrawn book", pages.first(0), NOT);
        doc.due("first of no book yet", pages.first(5), NOT);
        pages.book(5, 0, 0);
        doc.due("first of an empty book", pages.first(5), 5);
    }

    private void firstRefusedChangesNothing() {
        doc.sentence(19, Sentences.UNCHANGED);
        Standing.dueUnchanged(doc, BAD, p -> p.first(-1), p -> p.first(6));
        Standing.dueUnchanged(doc, NOT, p -> p.first(4));
    }

    // ---- promise 20

    private void countBooks() {
        doc.sentence(20, "How many: 0 BOOKS");
        BorrowedPages pages = new BorrowedPages();
        doc.due("no books", pages.count(0), 0);
        for (int book = 5; book >= 0; book--) {
            pages.book(book, 0, 0);
            doc.due("books", pages.count(0), 6 - book);
        }
        pages.book(0, 1, 1);
        doc.due("a book in place of a book", pages.count(0), 6);
        pages.withdraw(3);
        doc.due("books but one", pages.count(0), 5);
        doc.due("books that are linked", alike(0, 0, 0).count(0), 3);
    }

    private void countGroups() {
        doc.sentence(20, "1 GROUPS");
        doc.due("groups of no books", new BorrowedPages().count(1), 0);
        doc.due("one book", alike(0).count(1), 1);
        doc.due("six in one", alike(0, 0, 0, 0, 0, 0).count(1), 1);
        doc.due("a row of six", row(3, 5, 1, 4, 0, 2).count(1), 1);
        doc.due("six apart", Check.letters(2, 1, "", "a", "bc", "de", "", "fg").count(1), 6);
        BorrowedPages pages = row(3, 5, 1, 4, 0, 2);
        pages.withdraw(1);
        doc.due("two of a row", pages.count(1), 2);
    }

    private void countLone() {
        doc.sentence(20, "2 GROUPS of one BOOK");
        doc.due("groups of one of no books", new BorrowedPages().count(2), 0);
        doc.due("one book", alike(0).count(2), 1);
        doc.due("two in one", alike(0, 0).count(2), 0);
        doc.due("six apart", Check.letters(2, 1, "", "a", "bc", "de", "", "fg").count(2), 6);
        BorrowedPages pages = row(3, 5, 1, 4, 0, 2);
        doc.due("a row of six", pages.count(2), 0);
        pages.withdraw(5);
        doc.due("the end of the row is alone", pages.count(2), 1);
        pages.withdraw(0);
        doc.due("both ends are alone", pages.count(2), 2);
    }

    private void countLinks() {
        doc.sentence(20, "3 LINKS.");
        doc.due("links of no books", new BorrowedPages().count(3), 0);
        doc.due("links of one book", alike(0).count(3), 0);
        doc.due("links of two", alike(0, 0).count(3), 1);
        doc.due("links of three", alike(0, 0, 0).count(3), 3);
        doc.due("links of six", alike(0, 0, 0, 0, 0, 0).count(3), 15);
        doc.due("links of a row", row(3, 5, 1, 4, 0, 2).count(3), 5);
        BorrowedPages pages = alike(0, 0);
        doc.due("links", pages.count(3), 1);
        doc.due("links asked again", pages.count(3), 1);
        pages.link(9);
        doc.due("links at 9", pages.count(3), 0);
    }

    private void countBad() {
        doc.sentence(20, "BAD.");
        BorrowedPages pages = Standing.shelf();
        for (int what : new int[] {LEAST, -2, -1, 4, 5, GREATEST}) {
            doc.due("count " + what, pages.count(what), BAD);
            doc.due("count " + what + " of no books", new BorrowedPages().count(what), BAD);
        }
    }

    private void countRefusedChangesNothing() {
        doc.sentence(20, Sentences.UNCHANGED);
        Standing.dueUnchanged(doc, BAD, p -> p.count(-1), p -> p.count(4));
    }

    // ---- promise 21

    private void chance() {
        doc.sentence(21, "CHANCE.");
        BorrowedPages pages = Check.letters(2, 1, "abcd", "abcd");
        doc.due("chance of a whole", pages.chance(0, 1), 1);
        doc.due("chance the other way", pages.chance(1, 0), 1);
    }

    private void chanceTurnings() {
        doc.sentence(21, "CHANCE of BOOKS a, b: at how many of the turnings of b's TOKENS");
        // Of the turnings of bcdxa cdxab alone has less than three; of those of abcd cdab and dabc have less.
        BorrowedPages pages = Check.letters(2, 1, "abcd", "bcdxa");
        doc.due("the longer one is turned", pages.chance(0, 1), 4);
        doc.due("the shorter one is turned", pages.chance(1, 0), 2);
        // Turned round, and back again.
        doc.dueTokens(pages, 0, 1, 2, 3, 4);
        doc.dueTokens(pages, 1, 2, 3, 4, 24, 1);
        doc.due("asked again", pages.chance(0, 1), 4);
    }

    private void chanceAsMany() {
        doc.sentence(21, "(by 0, 1, .., as many as it has TOKENS");
        doc.due("by 0 alone", Check.letters(2, 1, "a", "a").chance(0, 1), 1);
        doc.due("b has no tokens", Check.letters(2, 1, "ab", "").chance(0, 1), 0);
        doc.due("both have no tokens", Check.letters(2, 1, "", "").chance(0, 1), 0);
        doc.due("a has no tokens", Check.letters(2, 1, "", "abc").chance(0, 1), 3);
        doc.due("b of two alike", Check.letters(2, 1, "aa", "aa").chance(0, 1), 2);
        doc.due("b of forty alike", Check.letters(2, 1, "a".repeat(40), "a".repeat(40)).chance(0, 1), 40);
        doc.due("by 39, and by 0", Check.letters(2, 1, "bc", "bc" + "a".repeat(37) + "x").chance(0, 1), 39);
    }

    private void chanceAheadComesBehind() {
        doc.sentence(21, "those ahead come behind)");
        // Of abc, bca, cab: ab, then none, then ab.
        doc.due("parted at one turning", Check.letters(2, 1, "ab", "abc").chance(0, 1), 2);
        // bcdxa has bcd, xabcd and abcdx all four; of the others dxabc has three, and cdxab two.
        doc.due("joined at two turnings", Check.letters(2, 1, "abcd", "bcdxa").chance(0, 1), 4);
        // A text turned is not a text read backwards.
        doc.due("not backwards", Check.letters(2, 1, "cba", "cbaxyz").chance(0, 1), 4);
    }

    private void chanceAsGreat() {
        doc.sentence(21, "THE SCORE of a and that is as great, or greater, than that by 0");
        BorrowedPages pages = Check.letters(2, 1, "abcd", "bcda");
        // bcda 3, cdab 2, dabc 3, abcd 4: one is less, one as great, one greater.
        doc.due("score by 0", pages.score(0, 1), 3);
        doc.due("as great ones and greater ones count", pages.chance(0, 1), 3);
        // By 0 nothing: each turning is as great.
        doc.due("a score of 0", Check.letters(2, 1, "ab", "cdef").chance(0, 1), 4);
        doc.due("a score of 0 that is passed", Check.letters(2, 1, "ab", "bxya").chance(0, 1), 4);
        // abab 4, baba 2, and so on.
        BorrowedPages like = Check.letters(2, 1, "abxab", "abab");
        like.gap(0);
        doc.due("as great alone", like.chance(0, 1), 2);
        // G counts: abxcd in two RUNS.
        BorrowedPages gap = Check.letters(2, 1, "abxcd", "cdyab");
        gap.gap(0);
        doc.due("score by 0", gap.score(0, 1), 2);
        doc.due("greater in two runs", gap.chance(0, 1), 5);
    }

    private void chanceMarksAnew() {
        doc.sentence(21, "(what is SET ASIDE, MARKS, anew each time).");
        // Turned so that ab stands in it, b has no MARK at bc any more.
        BorrowedPages pages = Check.letters(2, 8, "bcz", "bcda");
        doc.due("score by 0", pages.score(0, 1), 2);
        doc.due("marks anew", pages.chance(0, 1), 1);
        // The MARK goes where its GRAM goes.
        doc.due("marks turned", Check.letters(2, 8, "abz", "abcd").chance(0, 1), 3);
        doc.due("the marks are again what they were", pages.markAt(1, 0), 0);
    }

    private void chanceAsideAnew() {
        doc.sentence(21, "(what is SET ASIDE, MARKS, anew each time).");
        // Turned so that ab stands in it, b has that SET ASIDE: by 0 3, by 1 2, by 2 0, by 3 2.
        BorrowedPages third = Check.letters(2, 1, "bcdz", "bcda", "ab");
        doc.due("none given", third.chance(0, 1), 2);
        third.given(2);
        doc.due("score by 0", third.score(0, 1), 3);
        doc.due("set aside anew", third.chance(0, 1), 1);
        doc.dueAside(third, 1, "0000");
        // Turned so that ab is parted, b has it no longer SET ASIDE: by 0 2, by 1 bcd.
        BorrowedPages parted = Check.letters(2, 1, "bcdz", "abcd", "ab");
        parted.given(2);
        doc.due("score by 0", parted.score(0, 1), 2);
        doc.due("no longer set aside", parted.chance(0, 1), 3);
        // a GIVEN: bcya has bc, cyab ab; yabc and abcy have abc, which are three TOKENS and SET ASIDE.
        BorrowedPages first = Check.letters(2, 2, "abcx", "bcya");
        first.given(0);
        doc.due("score by 0", first.score(0, 1), 2);
        doc.due("a given", first.chance(0, 1), 2);
        // b GIVEN: it is so as it is turned.
        BorrowedPages second = Check.letters(2, 2, "abcx", "bcya");
        second.given(1);
        doc.due("score by 0", second.score(0, 1), 2);
        doc.due("b given", second.chance(0, 1), 2);
        doc.due("b is given still", second.given(-1), 1);
    }

    private void chanceRefused() {
        doc.sentence(21, "BAD; NOT as runs().");
        BorrowedPages pages = Standing.shelf();
        for (int book : NO_BOOKS) {
            doc.due("chance of " + book, pages.chance(book, 0), BAD);
            doc.due("chance with " + book, pages.chance(0, book), BAD);
        }
        doc.due("chance of one", pages.chance(0, 0), BAD);
        doc.due("chance with nothing", pages.chance(0, 5), NOT);
        doc.due("chance of nothing", pages.chance(5, 0), NOT);
        doc.due("chance of nothing at all", pages.chance(4, 5), NOT);
    }

    private void chanceFirstNamed() {
        doc.sentence(21, Sentences.FIRST_NAMED);
        BorrowedPages pages = Standing.shelf();
        for (int[] pair : Standing.BAD_AND_NOTHING) {
            doc.due("chance", pages.chance(pair[0], pair[1]), BAD);
        }
    }

    private void chanceRefusedChangesNothing() {
        doc.sentence(21, Sentences.UNCHANGED);
        Standing.dueUnchanged(doc, BAD, p -> p.chance(0, 0), p -> p.chance(-1, 0), p -> p.chance(0, 6));
        Standing.dueUnchanged(doc, NOT, p -> p.chance(0, 5), p -> p.chance(5, 0));
    }
}
