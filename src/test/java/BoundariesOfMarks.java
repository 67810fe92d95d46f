import java.util.Arrays;

/**
 * Promises 10 to 12 at their bounds: hash, markAt, aside. With K = 2 and one-letter words the HASH of a GRAM is
 * 120127 and 131 times its first letter and its second one, so GRAMS stand in the order of the alphabet.
 */
final class BoundariesOfMarks {
    private static final int BAD = -1, NOT = -2, NONE = -4;
    private static final int LEAST = Standing.LEAST, GREATEST = Standing.GREATEST;
    private static final int[] NO_BOOKS = Standing.NO_BOOKS;

    private final Sentences doc;

    BoundariesOfMarks(Sentences doc) {
        this.doc = doc;
    }

    void ask() {
        hash();
        hashOfEachLength();
        hashModulo();
        hashBad();
        hashNot();
        hashNone();
        hashNoneIsMinusFour();
        hashFirstNamed();
        hashRefusedChangesNothing();
        marksOfWindows();
        marksOfFewer();
        marksLeast();
        marksLikeOnes();
        markAt();
        markHowMany();
        markBad();
        markNot();
        markFirstNamed();
        markRefusedChangesNothing();
        asideLength();
        asideTokens();
        asideInTheGiven();
        asideLanguage();
        asideOfTheGiven();
        asideNoneGiven();
        asideAnswers();
        asideBad();
        asideNot();
        asideFirstNamed();
        asideRefusedChangesNothing();
    }

    private void dueMarks(int k, int w, String text, int... want) {
        doc.dueMarks(Check.letters(k, w, text), 0, want);
    }

    // ---- promise 10

    private void hash() {
        doc.sentence(10, "The HASH of a GRAM.");
        BorrowedPages pages = Check.letters(2, 1, "abz");
        doc.due("hash 0", pages.hash(0, 0), 120127 + 131 + 2);
        doc.due("hash 1", pages.hash(0, 1), 120127 + 2 * 131 + 26);
        pages.windows(3, 1);
        doc.due("hash with K 3", pages.hash(0, 0), Check.hash(1, 2, 26));
    }

    private void hashOfEachLength() {
        doc.sentence(10, "GRAM i of a BOOK is its TOKENS i to i + K - 1");
        for (int k = 2; k <= 5; k++) {
            for (int size = k + 1; size <= 40; size++) {
                BorrowedPages pages = Check.letters(k, 4, "b".repeat(size - 1) + "c");
                long[] last = twos(k);
                last[k - 1] = 3;
                doc.due("gram of " + k + " ahead of the last one of " + size, pages.hash(0, size - k - 1), Check.hash(twos(k)));
                doc.due("the last gram of " + k + " of " + size, pages.hash(0, size - k), Check.hash(last));
                doc.due("a gram of " + k + " behind the last one of " + size, pages.hash(0, size - k + 1), NONE);
            }
            doc.due("gram of " + k + " of as many tokens", Check.letters(k, 4, "b".repeat(k)).hash(0, 0), Check.hash(twos(k)));
            doc.due("gram of " + k + " of one token less", Check.letters(k, 4, "b".repeat(k - 1)).hash(0, 0), NONE);
        }
    }

    private static long[] twos(int k) {
        long[] gram = new long[k];
        Arrays.fill(gram, 2);
        return gram;
    }

    private void hashModulo() {
        doc.sentence(10, "its HASH: from h = 7 on h becomes (h 131 + TOKEN) modulo 1000003 for each.");
        BorrowedPages pages = new BorrowedPages();
        pages.windows(2, 1);
        Check.write(pages, 0, 0, 0, "a bvlqk a bvlql a bvlqm");
        doc.due("the greatest hash", pages.hash(0, 0), 1000002);
        doc.due("the least hash", pages.hash(0, 2), 0);
        doc.due("the least hash but one", pages.hash(0, 4), 1);
        Check.write(pages, 0, 0, 0, "z99999 z99999 z99999 z99999 z99999 a");
        for (int k = 2; k <= 5; k++) {
            pages.windows(k, 1);
            long[] gram = new long[k];
            Arrays.fill(gram, 1872286838L);
            doc.due("the greatest tokens, " + k, pages.hash(0, 0), Check.hash(gram));
        }
        Check.write(pages, 1, 1, 0, "if x 1 ~ end");
        doc.due("tokens of code", pages.hash(1, 0), Check.hash(1, 6, 7, 226, 5));
    }

    private void hashBad() {
        doc.sentence(10, "BAD");
        BorrowedPages pages = Standing.shelf();
        for (int book : NO_BOOKS) {
            doc.due("hash of " + book, pages.hash(book, 0), BAD);
        }
    }

    private void hashNot() {
        doc.sentence(10, "NOT");
        BorrowedPages pages = Standing.shelf();
        pages.withdraw(0);
        doc.due("hash of a withdrawn book", pages.hash(0, 0), NOT);
        doc.due("hash of no book yet", pages.hash(5, 0), NOT);
    }

    private void hashNone() {
        doc.sentence(10, "NONE: there is none.");
        BorrowedPages pages = Check.letters(3, 4, "abcde", "abc", "ab", "");
        for (int gram : new int[] {LEAST, -4, -3, -2, -1, 3, 4, 5, 39, 40, GREATEST}) {
            doc.due("gram " + gram + " of five tokens", pages.hash(0, gram), NONE);
        }
        doc.due("gram 0 of three tokens", pages.hash(1, 0), Check.hash(1, 2, 3));
        doc.due("gram 1 of three tokens", pages.hash(1, 1), NONE);
        doc.due("gram 0 of two tokens", pages.hash(2, 0), NONE);
        doc.due("gram -1 of two tokens", pages.hash(2, -1), NONE);
        doc.due("gram 0 of no tokens", pages.hash(3, 0), NONE);
        // What was longer once leaves no GRAM behind its end.
        Check.writeLetters(pages, 0, "abc");
        doc.due("gram 1 of what was longer", pages.hash(0, 1), NONE);
    }

    private void hashNoneIsMinusFour() {
        doc.sentence(10, "NONE -4 (as told)");
        doc.due("NONE", BorrowedPages.NONE, -4);
        doc.due("hash of no gram", Check.letters(2, 1, "a").hash(0, 0), -4);
    }

    private void hashFirstNamed() {
        doc.sentence(10, Sentences.FIRST_NAMED);
        BorrowedPages pages = Standing.shelf();
        for (int gram : new int[] {LEAST, -1, 40, GREATEST}) {
            doc.due("NOT ahead of NONE, " + gram, pages.hash(5, gram), NOT);
            doc.due("BAD ahead of NONE, " + gram, pages.hash(6, gram), BAD);
            doc.due("BAD ahead of NONE, " + gram, pages.hash(-1, gram), BAD);
        }
    }

    private void hashRefusedChangesNothing() {
        doc.sentence(10, Sentences.UNCHANGED);
        Standing.dueUnchanged(doc, BAD, p -> p.hash(-1, 0), p -> p.hash(6, 0));
        Standing.dueUnchanged(doc, NOT, p -> p.hash(4, 0));
        Standing.dueUnchanged(doc, NONE, p -> p.hash(0, -1), p -> p.hash(0, 6));
    }

    // ---- promise 11

    private void marksOfWindows() {
        doc.sentence(11, "MARKS of a BOOK: of each W GRAMS one behind the other");
        // GRAMS that rise: the first one of each window; W of them are one window, one more are two.
        dueMarks(2, 3, "abcd", 0);
        dueMarks(2, 3, "abcde", 0, 1);
        dueMarks(2, 3, "abcdef", 0, 1, 2);
        // GRAMS that fall: the last one of each window.
        dueMarks(2, 3, "edcb", 2);
        dueMarks(2, 3, "fedcb", 2, 3);
        dueMarks(2, 8, "abcdefghi", 0);
        dueMarks(2, 8, "abcdefghij", 0, 1);
        dueMarks(2, 1, "cabd", 0, 1, 2);
        doc.due("marks of forty", Check.letters(2, 1, "a".repeat(40)).markAt(0, -1), 39);
        doc.due("the last mark of forty", Check.letters(2, 1, "a".repeat(40)).markAt(0, 38), 38);
    }

    private void marksOfFewer() {
        doc.sentence(11, "(of all, if there are fewer)");
        dueMarks(2, 4, "dcba", 2);
        dueMarks(2, 4, "abcd", 0);
        dueMarks(2, 8, "abcdefgh", 0);
        dueMarks(2, 8, "bcab", 2);
        dueMarks(2, 8, "za", 0);
        dueMarks(2, 8, "a");
        dueMarks(2, 1, "a");
        dueMarks(2, 8, "");
        dueMarks(5, 8, "abcd");
        dueMarks(5, 8, "abcde", 0);
        dueMarks(5, 1, "abcde", 0);
    }

    private void marksLeast() {
        doc.sentence(11, "the one of the least HASH");
        dueMarks(2, 3, "dcab", 2);
        dueMarks(2, 3, "abzy", 0);
        dueMarks(2, 3, "zaby", 1);
        BorrowedPages pages = new BorrowedPages();
        pages.windows(2, 8);
        // HASHES 1000002, .., 0, ..: the least one is 0.
        Check.write(pages, 0, 0, 0, "a bvlqk a bvlql a bvlqm");
        doc.dueMarks(pages, 0, 2);
    }

    private void marksLikeOnes() {
        doc.sentence(11, "of like ones the last one.");
        dueMarks(2, 3, "aaaa", 2);
        dueMarks(2, 3, "aaaaa", 2, 3);
        dueMarks(2, 3, "abab", 2);
        dueMarks(2, 4, "ababa", 2);
        dueMarks(2, 8, "abcabz", 3);
        dueMarks(2, 2, "aaa", 1);
    }

    private void markAt() {
        doc.sentence(11, "MARK i (the GRAM's number; they rise)");
        // One GRAM is the MARK of several windows, and one MARK.
        BorrowedPages pages = Check.letters(2, 3, "zxabyzcd");
        doc.dueMarks(pages, 0, 2, 3, 6);
        doc.due("mark 0 beside another book", Check.letters(2, 3, "zxabyzcd", "ab").markAt(1, 0), 0);
    }

    private void markHowMany() {
        doc.sentence(11, "i = -1: how many.");
        doc.due("marks of none", Check.letters(2, 1, "").markAt(0, -1), 0);
        doc.due("marks of one token", Check.letters(2, 1, "a").markAt(0, -1), 0);
        doc.due("marks of one gram", Check.letters(2, 1, "ab").markAt(0, -1), 1);
        doc.due("marks of all", Check.letters(2, 1, "abcde").markAt(0, -1), 4);
        doc.due("marks of one window", Check.letters(2, 8, "abcde").markAt(0, -1), 1);
        // What a longer book had is not left over.
        BorrowedPages pages = Check.letters(2, 1, "abcde", "ab", "");
        doc.due("marks of the longer book", pages.markAt(0, -1), 4);
        doc.due("marks of the shorter book", pages.markAt(1, -1), 1);
        doc.due("marks of the empty book", pages.markAt(2, -1), 0);
    }

    private void markBad() {
        doc.sentence(11, "BAD");
        BorrowedPages pages = Check.letters(2, 1, "abc", "", "a");
        for (int i : new int[] {LEAST, -3, -2, 2, 3, 39, 40, GREATEST}) {
            doc.due("mark " + i + " of two", pages.markAt(0, i), BAD);
        }
        doc.due("mark 0 of no tokens", pages.markAt(1, 0), BAD);
        doc.due("mark 0 of one token", pages.markAt(2, 0), BAD);
        for (int book : NO_BOOKS) {
            doc.due("mark of " + book, pages.markAt(book, 0), BAD);
            doc.due("marks of " + book, pages.markAt(book, -1), BAD);
        }
    }

    private void markNot() {
        doc.sentence(11, "NOT");
        BorrowedPages pages = Standing.shelf();
        pages.withdraw(0);
        for (int i : new int[] {-1, 0, 5, 40, GREATEST}) {
            doc.due("mark " + i + " of a withdrawn book", pages.markAt(0, i), NOT);
            doc.due("mark " + i + " of no book yet", pages.markAt(5, i), NOT);
        }
    }

    private void markFirstNamed() {
        doc.sentence(11, Sentences.FIRST_NAMED);
        BorrowedPages pages = Standing.shelf();
        doc.due("mark -2 of nothing", pages.markAt(5, -2), BAD);
        doc.due("mark least of nothing", pages.markAt(5, LEAST), BAD);
        doc.due("mark -2 of 6", pages.markAt(6, -2), BAD);
    }

    private void markRefusedChangesNothing() {
        doc.sentence(11, Sentences.UNCHANGED);
        Standing.dueUnchanged(doc, BAD, p -> p.markAt(-1, 0), p -> p.markAt(6, 0), p -> p.markAt(0, -2), p -> p.markAt(0, 39));
        Standing.dueUnchanged(doc, NOT, p -> p.markAt(4, 0));
    }

    // ---- promise 12

    private void asideLength() {
        doc.sentence(12, "A TOKEN of another BOOK is SET ASIDE, if it is in some W and K less 1 (or more) TOKENS one behind the other");
        for (int k = 2; k <= 5; k++) {
            for (int w = 1; w <= 8; w++) {
                dueShared(k, w, w + k - 2, false);
                dueShared(k, w, w + k - 1, true);
                dueShared(k, w, w + k, true);
            }
        }
        // A BOOK shorter than that has nothing to set aside.
        BorrowedPages pages = Check.letters(2, 3, "abc", "abcd");
        pages.given(1);
        doc.dueAside(pages, 0, "000");
        pages.given(0);
        doc.dueAside(pages, 1, "0000");
    }

    /** So many tokens that the given book has, too, alone and with others about them. */
    private void dueShared(int k, int w, int shared, boolean aside) {
        String part = "abcdefghijklm".substring(0, shared);
        String want = (aside ? "1" : "0").repeat(shared);
        BorrowedPages pages = Check.letters(k, w, "z" + part + "y", "y" + part + "z", part);
        pages.given(0);
        doc.dueAside(pages, 1, "0" + want + "0");
        doc.dueAside(pages, 2, want);
    }

    private void asideTokens() {
        doc.sentence(12, "A TOKEN of another BOOK is SET ASIDE, if it is in some W and K less 1 (or more) TOKENS one behind the other");
        BorrowedPages pages = Check.letters(2, 3, "abcd", "xabcdy", "abcdabcd", "abcxbcd", "xxabcd", "abcdxx");
        pages.given(0);
        doc.dueAside(pages, 1, "011110");
        doc.dueAside(pages, 2, "11111111");
        doc.dueAside(pages, 3, "0000000");
        doc.dueAside(pages, 4, "001111");
        doc.dueAside(pages, 5, "111100");
        // Two stretches that overlap, of which no longer one stands in the GIVEN BOOK.
        BorrowedPages over = Check.letters(2, 3, "abcdzcdef", "xabcdefx");
        over.given(0);
        doc.dueAside(over, 1, "01111110");
        BorrowedPages forty = Check.letters(2, 3, "a".repeat(40), "a".repeat(40));
        forty.given(0);
        doc.dueAside(forty, 1, "1".repeat(40));
    }

    private void asideInTheGiven() {
        doc.sentence(12, "that stand in the GIVEN BOOK, too, one behind the other");
        // Not with another TOKEN between, nor from the end of the GIVEN BOOK on to its beginning, nor backwards.
        BorrowedPages pages = Check.letters(2, 3, "abcd", "abxcd", "cdxab", "cdab", "dcba", "abcd");
        for (int book = 1; book < 5; book++) {
            pages.given(book);
            doc.dueAside(pages, 0, "0000");
        }
        pages.given(5);
        doc.dueAside(pages, 0, "1111");
        BorrowedPages ends = Check.letters(2, 3, "mabcdn", "abcdx", "xabcd", "abc", "");
        for (int book = 1; book < 3; book++) {
            ends.given(book);
            doc.dueAside(ends, 0, "011110");
        }
        for (int book = 3; book < 5; book++) {
            ends.given(book);
            doc.dueAside(ends, 0, "000000");
        }
        // Not those of a BOOK that is not GIVEN.
        BorrowedPages third = Check.letters(2, 3, "abcd", "abcd", "wxyz");
        third.given(2);
        doc.dueAside(third, 0, "0000");
    }

    private void asideLanguage() {
        doc.sentence(12, "in the same LANGUAGE.");
        BorrowedPages pages = new BorrowedPages();
        pages.windows(2, 3);
        Check.write(pages, 0, 1, 0, "v w x y");
        Check.write(pages, 1, 0, 0, "f f f f");
        Check.write(pages, 2, 1, 0, "a b c d");
        doc.due("a like token", pages.token(0, 0), pages.token(1, 0));
        pages.given(1);
        doc.dueAside(pages, 0, "0000");
        pages.given(0);
        doc.dueAside(pages, 1, "0000");
        doc.dueAside(pages, 2, "1111");
    }

    private void asideOfTheGiven() {
        doc.sentence(12, "(None of the GIVEN one is.)");
        BorrowedPages pages = Check.letters(2, 1, "abcabc", "abcabc");
        pages.given(0);
        doc.dueAside(pages, 0, "000000");
        doc.dueAside(pages, 1, "111111");
        pages.given(1);
        doc.dueAside(pages, 0, "111111");
        doc.dueAside(pages, 1, "000000");
    }

    private void asideNoneGiven() {
        doc.sentence(12, "GIVEN is one BOOK, or none (at first).");
        BorrowedPages pages = Check.letters(2, 1, "abc", "abc", "xab");
        doc.dueAside(pages, 0, "000");
        pages.given(1);
        doc.dueAside(pages, 0, "111");
        doc.dueAside(pages, 2, "011");
        pages.given(2);
        doc.dueAside(pages, 0, "110");
        pages.given(-1);
        doc.dueAside(pages, 0, "000");
        pages.given(1);
        pages.withdraw(1);
        doc.dueAside(pages, 0, "000");
    }

    private void asideAnswers() {
        doc.sentence(12, "Whether a TOKEN is SET ASIDE: 1, 0.");
        BorrowedPages pages = Check.letters(2, 1, "xaby", "ab");
        pages.given(1);
        doc.due("aside 0", pages.aside(0, 0), 0);
        doc.due("aside 1", pages.aside(0, 1), 1);
        doc.due("aside 2", pages.aside(0, 2), 1);
        doc.due("aside 3", pages.aside(0, 3), 0);
    }

    private void asideBad() {
        doc.sentence(12, "BAD");
        BorrowedPages pages = Check.letters(2, 1, "abc", "abcdefgh", "", "a".repeat(40));
        pages.given(1);
        for (int i : new int[] {LEAST, -3, -2, -1, 3, 4, 39, 40, GREATEST}) {
            doc.due("aside " + i + " of three", pages.aside(0, i), BAD);
        }
        doc.due("aside 0 of none", pages.aside(2, 0), BAD);
        doc.due("aside 39 of forty", pages.aside(3, 39), 0);
        doc.due("aside 40 of forty", pages.aside(3, 40), BAD);
        doc.due("aside -1 of the given one", pages.aside(1, -1), BAD);
        doc.due("aside 8 of the given one", pages.aside(1, 8), BAD);
        for (int book : NO_BOOKS) {
            doc.due("aside of " + book, pages.aside(book, 0), BAD);
        }
    }

    private void asideNot() {
        doc.sentence(12, "NOT");
        BorrowedPages pages = Standing.shelf();
        pages.withdraw(0);
        for (int i : new int[] {0, 6, 7, 39, 40, GREATEST}) {
            doc.due("aside " + i + " of a withdrawn book", pages.aside(0, i), NOT);
            doc.due("aside " + i + " of no book yet", pages.aside(5, i), NOT);
        }
    }

    private void asideFirstNamed() {
        doc.sentence(12, Sentences.FIRST_NAMED);
        BorrowedPages pages = Standing.shelf();
        doc.due("aside -1 of nothing", pages.aside(5, -1), BAD);
        doc.due("aside least of nothing", pages.aside(5, LEAST), BAD);
        doc.due("aside -1 of 6", pages.aside(6, -1), BAD);
    }

    private void asideRefusedChangesNothing() {
        doc.sentence(12, Sentences.UNCHANGED);
        Standing.dueUnchanged(doc, BAD, p -> p.aside(-1, 0), p -> p.aside(6, 0), p -> p.aside(0, -1), p -> p.aside(0, 7));
        Standing.dueUnchanged(doc, NOT, p -> p.aside(4, 0));
    }
}
