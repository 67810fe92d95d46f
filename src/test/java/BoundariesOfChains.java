/** Promises 15 to 17 at their bounds: score, chain, covered. With W = 1 each shared stretch of K TOKENS or more is a RUN. */
final class BoundariesOfChains {
    private static final int BAD = -1, NOT = -2;
    private static final int LEAST = Standing.LEAST, GREATEST = Standing.GREATEST;

    private final Sentences doc;

    BoundariesOfChains(Sentences doc) {
        this.doc = doc;
    }

    void ask() {
        score();
        scoreOfAChain();
        scoreLessG();
        scoreButTheFirst();
        scoreGreatest();
        scoreNoRuns();
        scoreRefused();
        scoreFirstNamed();
        scoreRefusedChangesNothing();
        chainBehind();
        chainAtTheEnd();
        chainNumbers();
        chainHowMany();
        chainLesserI();
        chainLesserJ();
        chainRatherThanNone();
        chainBad();
        chainNot();
        chainFirstNamed();
        chainRefusedChangesNothing();
        covered();
        coveredBad();
        coveredNot();
        coveredFirstNamed();
        coveredRefusedChangesNothing();
    }

    private void dueScore(BorrowedPages pages, int gap, int want) {
        pages.gap(gap);
        doc.due("score, gap " + gap, pages.score(0, 1), want);
        doc.due("score the other way, gap " + gap, pages.score(1, 0), want);
    }

    private void dueChain(int gap, String first, String second, int... want) {
        BorrowedPages pages = Check.letters(2, 1, first, second);
        pages.gap(gap);
        doc.dueChain(pages, 0, 1, want);
    }

    /** Runs of 20 and of 19 tokens, which touch in the first book. */
    private static BorrowedPages twentyAndNineteen() {
        int[] second = Check.joined(Check.upTo(0, 20), Check.upTo(50, 51), Check.upTo(20, 39));
        return Check.wordBooks(Check.upTo(0, 40), second);
    }

    // ---- promise 15

    private void score() {
        doc.sentence(15, "THE SCORE.");
        doc.due("score of one run", Check.letters(2, 1, "ab", "ab").score(0, 1), 2);
        doc.due("score of a whole book", Check.letters(2, 1, "a".repeat(40), "a".repeat(40)).score(0, 1), 40);
        doc.due("score of the last two books", BoundariesOfRuns.lastBooks().score(5, 4), 2);
    }

    private void scoreOfAChain() {
        doc.sentence(15, "A CHAIN are whole RUNS, one behind the other in both BOOKS");
        dueScore(Check.letters(2, 1, "abcxdef", "abcydef"), 0, 6);
        // One behind the other in the one BOOK, and ahead of it in the other one.
        dueScore(Check.letters(2, 1, "abcxde", "deyabc"), 0, 3);
        // RUNS that have a TOKEN in common are not cut: abc and cde, in the one BOOK and in the other one.
        dueScore(Check.letters(2, 1, "abcde", "abcxcde"), 0, 3);
        dueScore(Check.letters(2, 1, "abcxcde", "abcde"), 0, 3);
    }

    private void scoreLessG() {
        doc.sentence(15, "Its SCORE: all their TOKENS, less G (0 .. 20; 2 at first)");
        BorrowedPages pages = twentyAndNineteen();
        doc.dueRuns(pages, 0, 1, Check.run(0, 0, 20), Check.run(20, 21, 19));
        doc.due("score, gap at first", pages.score(0, 1), 37);
        dueScore(pages, 0, 39);
        dueScore(pages, 1, 38);
        dueScore(pages, 18, 21);
        dueScore(pages, 19, 20);
        dueScore(pages, 20, 20);
    }

    private void scoreButTheFirst() {
        doc.sentence(15, "for each RUN but the first.");
        dueScore(Check.letters(2, 1, "ab", "ab"), 20, 2);
        dueScore(Check.letters(2, 1, "abcxdef", "abcydef"), 1, 5);
        dueScore(Check.letters(2, 1, "abcxdefxghi", "abcydefyghi"), 1, 7);
        BorrowedPages thirteen = BoundariesOfRuns.manyRuns();
        dueScore(thirteen, 0, 26);
        dueScore(thirteen, 1, 14);
        dueScore(thirteen, 2, 2);
        dueScore(thirteen, 3, 2);
    }

    private void scoreGreatest() {
        doc.sentence(15, "THE SCORE of two BOOKS is the greatest of all CHAINS");
        // Two small RUNS, or a great one across: 6 less G, or 5.
        BorrowedPages pages = Check.letters(2, 1, "abcdexpqrystu", "pqrzstuwabcde");
        dueScore(pages, 0, 6);
        dueScore(pages, 1, 5);
        dueScore(pages, 2, 5);
        // A RUN between that does not pay its G is left out.
        BorrowedPages between = Check.letters(2, 1, "abcdexfgyhijkl", "abcdezfgwhijkl");
        dueScore(between, 3, 7);
        dueScore(between, 1, 10);
        // What longer BOOKS had is not left over.
        BorrowedPages left = BoundariesOfRuns.longAndShort();
        doc.due("score of the long ones", left.score(0, 1), 40);
        doc.due("score of the short ones", left.score(2, 3), 4);
        doc.due("score of the short ones, the other way", left.score(3, 2), 4);
        // A CHAIN does not go below its best RUN, wherever this one stands.
        dueScore(Check.letters(2, 1, "abxcdyefgh", "abzcdwefgh"), 20, 4);
        dueScore(Check.letters(2, 1, "efghxcdyab", "efghzcdwab"), 20, 4);
    }

    private void scoreNoRuns() {
        doc.sentence(15, "0: there are no RUNS.");
        dueScore(Check.letters(2, 1, "abcd", "efgh"), 0, 0);
        dueScore(Check.letters(2, 1, "", ""), 0, 0);
        dueScore(Check.letters(2, 1, "abcd", ""), 20, 0);
        dueScore(Check.letters(3, 1, "abx", "aby"), 2, 0);
        // What another pair had is not left over.
        BorrowedPages pages = Check.letters(2, 1, "abcd", "abcd", "efgh");
        doc.due("score", pages.score(0, 1), 4);
        doc.due("score without runs", pages.score(0, 2), 0);
        doc.due("score without runs", pages.score(2, 1), 0);
    }

    private void scoreRefused() {
        doc.sentence(15, "BAD; NOT as runs().");
        BorrowedPages pages = Standing.shelf();
        for (int book : Standing.NO_BOOKS) {
            doc.due("score of " + book, pages.score(book, 0), BAD);
            doc.due("score with " + book, pages.score(0, book), BAD);
        }
        doc.due("score of one", pages.score(0, 0), BAD);
        doc.due("score of one that is nothing", pages.score(5, 5), BAD);
        doc.due("score with nothing", pages.score(0, 5), NOT);
        doc.due("score of nothing", pages.score(5, 0), NOT);
        doc.due("score of nothing at all", pages.score(4, 5), NOT);
    }

    private void scoreFirstNamed() {
        doc.sentence(15, Sentences.FIRST_NAMED);
        BorrowedPages pages = Standing.shelf();
        for (int[] pair : Standing.BAD_AND_NOTHING) {
            doc.due("score", pages.score(pair[0], pair[1]), BAD);
        }
    }

    private void scoreRefusedChangesNothing() {
        doc.sentence(15, Sentences.UNCHANGED);
        Standing.dueUnchanged(doc, BAD, p -> p.score(0, 0), p -> p.score(-1, 0));
        Standing.dueUnchanged(doc, NOT, p -> p.score(5, 0));
    }

    // ---- promise 16

    private void chainBehind() {
        doc.sentence(16, "A CHAIN are whole RUNS, one behind the other in both BOOKS");
        dueChain(0, "abxcdyef", "abzcdwef", 0, 1, 2);
        dueChain(0, "abxcdyef", "efzabwcd", 0, 1);
        dueChain(0, "abxcdyef", "cdzefwab", 1, 2);
        // A RUN that the best CHAIN of others must leave out.
        dueChain(3, "abcdexfgyhijkl", "abcdezfgwhijkl", 0, 2);
    }

    private void chainAtTheEnd() {
        doc.sentence(16, "(each begins at or behind the end of the one ahead, in both).");
        // Nor does it go round from the end of a BOOK to its beginning.
        int[] endToEnd = Check.joined(Check.upTo(0, 2), Check.upTo(100, 136), Check.upTo(10, 12));
        BorrowedPages round = Check.wordBooks(Check.joined(Check.upTo(10, 12), Check.upTo(50, 51), Check.upTo(0, 2)), endToEnd);
        doc.dueRuns(round, 0, 1, Check.run(0, 38, 2), Check.run(3, 0, 2));
        dueScore(round, 0, 2);
        doc.dueChain(round, 0, 1, 0);
        doc.dueChain(round, 1, 0, 0);
        // At the end in the first BOOK; at the end in the other one.
        dueChain(0, "abcd", "abxcd", 0, 1);
        dueChain(0, "abxcd", "abcd", 0, 1);
        // One TOKEN ahead of the end in the first BOOK; in the other one.
        dueChain(0, "abc", "abxbc", 0);
        dueChain(0, "abxbc", "abc", 0);
        dueScore(Check.letters(2, 1, "abcd", "abxcd"), 0, 4);
        dueScore(Check.letters(2, 1, "abc", "abxbc"), 0, 2);
    }

    private void chainNumbers() {
        doc.sentence(16, "THE CHAIN: its RUN r (its number among RUNS)");
        BorrowedPages pages = Check.letters(2, 1, "abxabycd", "zabwcd");
        doc.dueRuns(pages, 0, 1, Check.run(0, 1, 2), Check.run(3, 1, 2), Check.run(6, 4, 2));
        pages.gap(0);
        doc.due("run 0", pages.chain(0, 1, 0), 0);
        doc.due("run 1", pages.chain(0, 1, 1), 2);
        BorrowedPages many = BoundariesOfRuns.manyRuns();
        many.gap(0);
        for (int r = 0; r < 13; r++) {
            doc.due("run " + r + " of thirteen", many.chain(0, 1, r), 14 * r);
        }
    }

    private void chainHowMany() {
        doc.sentence(16, "r = -1: how many.");
        dueChain(2, "abcd", "efgh");
        dueChain(2, "", "");
        dueChain(2, "ab", "ab", 0);
        doc.due("a chain of thirteen", BoundariesOfRuns.manyRuns().chain(0, 1, -1), 13);
        doc.due("the longest chain", longestChain().chain(0, 1, -1), 16);
        doc.due("the last run of the longest chain", longestChain().chain(0, 1, 15), 15);
        doc.due("behind the longest chain", longestChain().chain(0, 1, 16), BAD);
        // What another pair had is not left over.
        BorrowedPages pages = Check.letters(2, 1, "abcd", "abcd", "efgh");
        doc.dueChain(pages, 0, 1, 0);
        doc.dueChain(pages, 0, 2);
        BorrowedPages shorter = BoundariesOfRuns.longAndShort();
        doc.dueChain(shorter, 0, 1, 0);
        doc.dueChain(shorter, 2, 3, 0, 1);
        doc.dueChain(shorter, 0, 4);
    }

    /** Sixteen runs of two tokens, parted by one token each, in turn in the one book and in the other one. */
    private static BorrowedPages longestChain() {
        int[] first = {};
        int[] second = {};
        for (int r = 0; r < 16; r++) {
            int[] run = Check.upTo(2 * r, 2 * r + 2);
            boolean even = r % 2 == 0;
            first = Check.joined(first, run, even ? Check.upTo(100 + r, 101 + r) : new int[0]);
            second = Check.joined(second, run, even || r == 15 ? new int[0] : Check.upTo(200 + r, 201 + r));
        }
        BorrowedPages pages = Check.wordBooks(first, second);
        pages.gap(0);
        return pages;
    }

    private void chainLesserI() {
        doc.sentence(16, "THE CHAIN: of those of THE SCORE that of which the first RUN that differs has the lesser i");
        dueChain(2, "abxcd", "cdyab", 0);
        dueChain(0, "abxcdyef", "abzefwcd", 0, 1);
        // The lesser i, though it is the shorter RUN, or what is behind it has the greater i.
        dueChain(0, "abxcdyefgh", "efghzabwcd", 0, 1);
        dueChain(0, "efghxabycd", "abzcdwefgh", 0);
        // A RUN ahead that just pays its G has the lesser i.
        dueChain(2, "abxcdefg", "abycdefg", 0, 1);
        dueChain(3, "abxcdefg", "abycdefg", 1);
    }

    private void chainLesserJ() {
        doc.sentence(16, "then the lesser j");
        dueChain(2, "ab", "abxab", 0);
        dueChain(2, "ab", "xabxabxab", 0);
        dueChain(0, "abxcd", "abycdzcd", 0, 1);
        BorrowedPages pages = Check.letters(2, 1, "xaby", "abzabzab");
        doc.dueChain(pages, 0, 1, 0);
        doc.due("its j", pages.run(0, 1, pages.chain(0, 1, 0), 1), 0);
    }

    private void chainRatherThanNone() {
        doc.sentence(16, "(a RUN rather than none).");
        // The RUN behind has G TOKENS: it pays its gap, and brings no more.
        dueChain(2, "abxcd", "abycd", 0, 1);
        dueChain(3, "abxcd", "abycd", 0);
        dueChain(1, "abxcd", "abycd", 0, 1);
        dueChain(2, "abxcdyef", "abzcdwef", 0, 1, 2);
        dueChain(3, "abcdxefgyhi", "abcdzefgwhi", 0, 1);
        dueChain(0, "ab", "ab", 0);
        // 20 and 19 TOKENS at G = 19 and at G = 20.
        BorrowedPages pages = twentyAndNineteen();
        pages.gap(19);
        doc.dueChain(pages, 0, 1, 0, 1);
        pages.gap(20);
        doc.dueChain(pages, 0, 1, 0);
    }

    private void chainBad() {
        doc.sentence(16, "BAD");
        BorrowedPages pages = Check.letters(2, 1, "abxcd", "abycd", "zz");
        for (int r : new int[] {LEAST, -3, -2, 2, 3, 40, GREATEST}) {
            doc.due("run " + r + " of two", pages.chain(0, 1, r), BAD);
        }
        pages.gap(20);
        doc.due("a run that is not in the chain", pages.chain(0, 1, 1), BAD);
        doc.due("run 0 of none", pages.chain(0, 2, 0), BAD);
        for (int book : Standing.NO_BOOKS) {
            doc.due("chain of " + book, pages.chain(book, 0, -1), BAD);
            doc.due("chain with " + book, pages.chain(0, book, 0), BAD);
        }
        doc.due("chain of one", pages.chain(0, 0, -1), BAD);
    }

    private void chainNot() {
        doc.sentence(16, "NOT");
        BorrowedPages pages = Check.letters(2, 1, "abxcd", "abycd");
        for (int r : new int[] {-1, 0, 40, GREATEST}) {
            doc.due("run " + r + " with nothing", pages.chain(0, 5, r), NOT);
            doc.due("run " + r + " of nothing", pages.chain(5, 0, r), NOT);
            doc.due("run " + r + " of nothing at all", pages.chain(4, 5, r), NOT);
        }
    }

    private void chainFirstNamed() {
        doc.sentence(16, Sentences.FIRST_NAMED);
        BorrowedPages pages = Check.letters(2, 1, "abxcd", "abycd");
        doc.due("run -2 with nothing", pages.chain(0, 5, -2), BAD);
        doc.due("run -2 of nothing", pages.chain(5, 0, -2), BAD);
        doc.due("run least of nothing", pages.chain(5, 0, LEAST), BAD);
        for (int[] pair : Standing.BAD_AND_NOTHING) {
            doc.due("chain", pages.chain(pair[0], pair[1], -1), BAD);
        }
    }

    private void chainRefusedChangesNothing() {
        doc.sentence(16, Sentences.UNCHANGED);
        Standing.dueUnchanged(doc, BAD, p -> p.chain(0, 0, -1), p -> p.chain(0, 1, -2), p -> p.chain(0, 1, 99));
        Standing.dueUnchanged(doc, NOT, p -> p.chain(0, 5, -1));
    }

    // ---- promise 17

    private void covered() {
        doc.sentence(17, "How many TOKENS of the first BOOK are in THE CHAIN.");
        doc.due("covered by no runs", Check.letters(2, 1, "abcd", "efgh").covered(0, 1), 0);
        doc.due("covered of an empty book", Check.letters(2, 1, "", "ab").covered(0, 1), 0);
        doc.due("covered as a whole", Check.letters(2, 1, "a".repeat(40), "a".repeat(40)).covered(0, 1), 40);
        // TOKENS, and no G taken off; those of RUNS outside THE CHAIN do not count.
        BorrowedPages pages = Check.letters(2, 1, "abcxdef", "abcydef");
        doc.due("covered, gap at first", pages.covered(0, 1), 6);
        pages.gap(3);
        doc.due("covered at a like score", pages.covered(0, 1), 6);
        pages.gap(4);
        doc.due("covered by one run", pages.covered(0, 1), 3);
        BorrowedPages twice = Check.letters(2, 1, "abxab", "ab");
        doc.due("covered by one of two runs", twice.covered(0, 1), 2);
        doc.due("covered the other way", twice.covered(1, 0), 2);
        doc.due("covered when there were runs before", coveredBehindAnother(), 0);
    }

    private static int coveredBehindAnother() {
        BorrowedPages pages = Check.letters(2, 1, "abcd", "abcd", "efgh");
        pages.covered(0, 1);
        return pages.covered(0, 2);
    }

    private void coveredBad() {
        doc.sentence(17, "BAD");
        BorrowedPages pages = Standing.shelf();
        for (int book : Standing.NO_BOOKS) {
            doc.due("covered of " + book, pages.covered(book, 0), BAD);
            doc.due("covered with " + book, pages.covered(0, book), BAD);
        }
        doc.due("covered of one", pages.covered(0, 0), BAD);
    }

    private void coveredNot() {
        doc.sentence(17, "NOT");
        BorrowedPages pages = Standing.shelf();
        doc.due("covered with nothing", pages.covered(0, 5), NOT);
        doc.due("covered of nothing", pages.covered(5, 0), NOT);
        doc.due("covered of nothing at all", pages.covered(4, 5), NOT);
    }

    private void coveredFirstNamed() {
        doc.sentence(17, Sentences.FIRST_NAMED);
        BorrowedPages pages = Standing.shelf();
        for (int[] pair : Standing.BAD_AND_NOTHING) {
            doc.due("covered", pages.covered(pair[0], pair[1]), BAD);
        }
    }

    private void coveredRefusedChangesNothing() {
        doc.sentence(17, Sentences.UNCHANGED);
        Standing.dueUnchanged(doc, BAD, p -> p.covered(0, 0), p -> p.covered(0, -1));
        Standing.dueUnchanged(doc, NOT, p -> p.covered(4, 5));
    }
}
