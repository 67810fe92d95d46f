/**
 * Promises 13 and 14 at their bounds: runs, run. With W = 1 each GRAM is a MARK, so each
 * shared stretch of K TOKENS or more is a RUN.
 */
final class BoundariesOfRuns {
    private static final int BAD = -1, NOT = -2;
    private static final int LEAST = Standing.LEAST, GREATEST = Standing.GREATEST;

    private final Sentences doc;

    BoundariesOfRuns(Sentences doc) {
        this.doc = doc;
    }

    void ask() {
        runs();
        runsLanguage();
        runsTokens();
        runsNoneAside();
        runsNoLonger();
        runsEndOfABook();
        runsAnotherToken();
        runsOneSetAside();
        runsGramInIt();
        runsOnePlace();
        runsMarkOfBoth();
        runsBad();
        runsNot();
        runsFirstNamed();
        runsRefusedChangesNothing();
        runOrder();
        runParts();
        runBad();
        runNot();
        runFirstNamed();
        runRefusedChangesNothing();
    }

    private void dueRuns(int k, int w, String first, String second, int[]... want) {
        BorrowedPages pages = Check.letters(k, w, first, second);
        doc.dueRuns(pages, 0, 1, want);
        doc.due("runs the other way", pages.runs(1, 0), want.length);
    }

    // ---- promise 13

    private void runs() {
        doc.sentence(13, "How many RUNS two BOOKS have.");
        doc.due("runs of two empty books", Check.letters(2, 1, "", "").runs(0, 1), 0);
        doc.due("runs with an empty book", Check.letters(2, 1, "ab", "").runs(0, 1), 0);
        doc.due("runs with an empty book", Check.letters(2, 1, "", "ab").runs(0, 1), 0);
        doc.due("runs of one token", Check.letters(2, 1, "a", "a").runs(0, 1), 0);
        doc.due("one run", Check.letters(2, 1, "ab", "ab").runs(0, 1), 1);
        doc.due("runs of forty alike", Check.letters(2, 1, "a".repeat(40), "a".repeat(40)).runs(0, 1), 77);
        // Thirteen stretches of two in each BOOK, each with each.
        doc.due("169 runs", manyRuns().runs(0, 1), 169);
        doc.due("runs of the last two books", lastBooks().runs(4, 5), 1);
        // What longer books had is not left over.
        BorrowedPages pages = longAndShort();
        doc.due("runs of the long ones", pages.runs(0, 1), 77);
        doc.due("runs of the short ones", pages.runs(2, 3), 2);
        doc.due("runs of a long one and an empty one", pages.runs(0, 4), 0);
    }

    /** Two books of forty like tokens, two of five with the runs (0, 0, 2) and (3, 3, 2), and an empty one. */
    static BorrowedPages longAndShort() {
        BorrowedPages pages = Check.letters(2, 1, "a".repeat(40), "a".repeat(40), "abxcd", "abycd", "");
        pages.gap(0);
        return pages;
    }

    static BorrowedPages manyRuns() {
        return Check.letters(2, 1, "aab".repeat(13) + "a", "aac".repeat(13) + "a");
    }

    static BorrowedPages lastBooks() {
        return Check.letters(2, 1, "", "", "", "", "ab", "ab");
    }

    private void runsLanguage() {
        doc.sentence(13, "RUNS of two BOOKS of one LANGUAGE");
        BorrowedPages pages = new BorrowedPages();
        pages.windows(2, 1);
        Check.write(pages, 0, Check.PROSE, 0, "f f f f");
        Check.write(pages, 1, Check.CODE, 0, "w x y z");
        Check.write(pages, 2, Check.CODE, 0, "a b");
        doc.due("a like token", pages.token(0, 0), pages.token(1, 0));
        doc.dueRuns(pages, 0, 1);
        doc.dueRuns(pages, 1, 0);
        doc.due("runs of one language", pages.runs(1, 2), 3);
        doc.due("score of two languages", pages.score(0, 1), 0);
    }

    private void runsTokens() {
        doc.sentence(13, "(i, j, n): TOKENS i to i + n - 1 of the one are TOKENS j to j + n - 1 of the other one");
        dueRuns(2, 1, "xxabc", "yabcyy", Check.run(2, 1, 3));
        dueRuns(2, 1, "ab", "ba");
        dueRuns(2, 1, "abc", "axc");
        dueRuns(2, 1, "aaa", "aa", Check.run(0, 0, 2), Check.run(1, 0, 2));
        BorrowedPages code = new BorrowedPages();
        code.windows(2, 1);
        Check.write(code, 0, Check.CODE, 0, "let x = 1");
        Check.write(code, 1, Check.CODE, 0, "LET abc=22");
        doc.dueRuns(code, 0, 1, Check.run(0, 0, 4));
    }

    private void runsNoneAside() {
        doc.sentence(13, "none of them SET ASIDE");
        BorrowedPages pages = Check.letters(2, 1, "xab", "yab", "ab");
        doc.dueRuns(pages, 0, 1, Check.run(1, 1, 2));
        pages.given(2);
        doc.dueRuns(pages, 0, 1);
        doc.dueRuns(pages, 1, 0);
        // With the GIVEN BOOK itself there are no RUNS of what it sets aside.
        doc.dueRuns(pages, 0, 2);
        doc.dueRuns(pages, 2, 0);
        BorrowedPages one = Check.letters(3, 1, "xabcd", "abcy", "bcd");
        doc.dueRuns(one, 0, 1, Check.run(1, 0, 3));
        one.given(2);
        // b, c are SET ASIDE in the one alone.
        doc.dueAside(one, 0, "00111");
        doc.dueAside(one, 1, "0000");
        doc.dueRuns(one, 0, 1);
        doc.dueRuns(one, 1, 0);
    }

    private void runsNoLonger() {
        doc.sentence(13, "it can't be longer at either end");
        dueRuns(2, 1, "abcd", "abcd", Check.run(0, 0, 4));
        dueRuns(2, 1, "aaa", "aaa", Check.run(0, 0, 3), Check.run(0, 1, 2), Check.run(1, 0, 2));
        dueRuns(2, 1, "abab", "abab", Check.run(0, 0, 4), Check.run(0, 2, 2), Check.run(2, 0, 2));
    }

    private void runsEndOfABook() {
        doc.sentence(13, "(an end of a BOOK");
        dueRuns(2, 1, "cdef", "abcdef", Check.run(0, 2, 4));
        dueRuns(2, 1, "abcdef", "cdef", Check.run(2, 0, 4));
        dueRuns(2, 1, "abcd", "abcdef", Check.run(0, 0, 4));
        dueRuns(2, 1, "abcdef", "abcd", Check.run(0, 0, 4));
        dueRuns(2, 1, "bc", "abcd", Check.run(0, 1, 2));
        dueRuns(2, 1, "xab", "aby", Check.run(1, 0, 2));
        // An end is not joined to the beginning.
        dueRuns(2, 1, "abcd", "cdab", Check.run(0, 2, 2), Check.run(2, 0, 2));
        int[] forty = Check.upTo(0, 40);
        doc.dueRuns(Check.wordBooks(forty, forty), 0, 1, Check.run(0, 0, 40));
        doc.dueRuns(Check.wordBooks(Check.upTo(1, 41), forty), 0, 1, Check.run(0, 1, 39));
        doc.dueRuns(Check.wordBooks(forty, Check.upTo(38, 60)), 0, 1, Check.run(38, 0, 2));
        // What was longer once has no tokens behind its end.
        BorrowedPages pages = Check.letters(2, 1, "abcd", "abcd");
        Check.writeLetters(pages, 0, "ab");
        doc.dueRuns(pages, 0, 1, Check.run(0, 0, 2));
        doc.dueRuns(pages, 1, 0, Check.run(0, 0, 2));
    }

    private void runsAnotherToken() {
        doc.sentence(13, "another TOKEN");
        dueRuns(2, 1, "xabcz", "yabcw", Check.run(1, 1, 3));
        dueRuns(2, 1, "abxcd", "abycd", Check.run(0, 0, 2), Check.run(3, 3, 2));
        dueRuns(2, 1, "abxcd", "abcd", Check.run(0, 0, 2), Check.run(3, 2, 2));
    }

    private void runsOneSetAside() {
        doc.sentence(13, "one SET ASIDE)");
        BorrowedPages both = Check.letters(2, 1, "abcdef", "abcdef", "cd");
        both.given(2);
        doc.dueRuns(both, 0, 1, Check.run(0, 0, 2), Check.run(4, 4, 2));
        // SET ASIDE in the one BOOK, and in the other one the same TOKEN is not: at the end, then at the beginning.
        BorrowedPages end = Check.letters(3, 1, "abcdef", "abcdxyz", "def");
        end.given(2);
        doc.dueAside(end, 0, "000111");
        doc.dueAside(end, 1, "0000000");
        doc.dueRuns(end, 0, 1, Check.run(0, 0, 3));
        doc.dueRuns(end, 1, 0, Check.run(0, 0, 3));
        BorrowedPages beginning = Check.letters(3, 1, "abcdef", "xcdef", "abc");
        beginning.given(2);
        doc.dueAside(beginning, 0, "111000");
        doc.dueAside(beginning, 1, "00000");
        doc.dueRuns(beginning, 0, 1, Check.run(3, 2, 3));
        doc.dueRuns(beginning, 1, 0, Check.run(2, 3, 3));
    }

    private void runsGramInIt() {
        doc.sentence(13, "and there is a GRAM in it");
        for (int k = 2; k <= 5; k++) {
            String shared = "abcde".substring(0, k);
            dueRuns(k, 1, "x" + shared + "x", "y" + shared + "y", Check.run(1, 1, k));
            dueRuns(k, 1, "x" + shared.substring(1) + "x", "y" + shared.substring(1) + "y");
            dueRuns(k, 1, shared, shared, Check.run(0, 0, k));
            dueRuns(k, 1, shared.substring(1), shared.substring(1));
        }
        // A MARK that sticks out of it by one TOKEN is not in it: at the end, then at the beginning.
        dueRuns(2, 8, "zba", "zbc");
        dueRuns(2, 8, "acd", "bcd");
        dueRuns(2, 8, "bcd", "bcd", Check.run(0, 0, 3));
        // Nor is one of which a TOKEN is SET ASIDE, though it is a MARK as before.
        BorrowedPages pages = Check.letters(2, 2, "yxabcz", "yxabcw", "abc");
        doc.dueRuns(pages, 0, 1, Check.run(0, 0, 5));
        doc.dueMarks(pages, 0, 1, 2, 3);
        pages.given(2);
        doc.dueMarks(pages, 0, 1, 2, 3);
        doc.dueRuns(pages, 0, 1);
    }

    private void runsOnePlace() {
        doc.sentence(13, "at one place in both");
        BorrowedPages pages = Check.letters(2, 3, "cdy", "cdabzcdz");
        // The one GRAM cd of the first BOOK is a MARK of the other one at 5, and none at 0.
        doc.dueMarks(pages, 0, 0);
        doc.dueMarks(pages, 1, 2, 3, 5);
        doc.dueRuns(pages, 0, 1, Check.run(0, 5, 2));
        doc.dueRuns(pages, 1, 0, Check.run(5, 0, 2));
    }

    private void runsMarkOfBoth() {
        doc.sentence(13, "that is a MARK of both BOOKS.");
        BorrowedPages pages = Check.letters(2, 8, "cdab", "cdzy", "cdzx");
        doc.dueMarks(pages, 0, 2);
        doc.dueMarks(pages, 1, 0);
        doc.dueRuns(pages, 0, 1);
        doc.dueRuns(pages, 1, 0);
        doc.dueRuns(pages, 1, 2, Check.run(0, 0, 3));
        pages.windows(2, 1);
        doc.dueRuns(pages, 0, 1, Check.run(0, 0, 2));
        // W and K less 1 shared TOKENS have a whole window in them, and so a MARK, whatever stands about them.
        for (int k = 2; k <= 5; k++) {
            for (int w = 1; w <= 8; w++) {
                int[] shared = Check.upTo(20, 20 + w + k - 1);
                BorrowedPages about = Check.wordBooks(Check.joined(Check.upTo(0, 10), shared, Check.upTo(50, 60)),
                        Check.joined(Check.upTo(60, 75), shared, Check.upTo(80, 83)));
                about.windows(k, w);
                doc.dueRuns(about, 0, 1, Check.run(10, 15, w + k - 1));
            }
        }
    }

    private void runsBad() {
        doc.sentence(13, "BAD: also they are one");
        BorrowedPages pages = Standing.shelf();
        for (int book : Standing.NO_BOOKS) {
            doc.due("runs of " + book, pages.runs(book, 0), BAD);
            doc.due("runs with " + book, pages.runs(0, book), BAD);
        }
        for (int book = 0; book < 6; book++) {
            doc.due("runs of one, " + book, pages.runs(book, book), BAD);
        }
    }

    private void runsNot() {
        doc.sentence(13, "NOT: one is nothing.");
        BorrowedPages pages = Standing.shelf();
        doc.due("the other one is nothing", pages.runs(0, 5), NOT);
        doc.due("the one is nothing", pages.runs(5, 0), NOT);
        doc.due("both are nothing", pages.runs(4, 5), NOT);
        pages.withdraw(1);
        doc.due("the other one is withdrawn", pages.runs(0, 1), NOT);
        doc.due("the one is withdrawn", pages.runs(1, 0), NOT);
        doc.due("an empty book is not nothing", lastBooks().runs(0, 5), 0);
    }

    private void runsFirstNamed() {
        doc.sentence(13, Sentences.FIRST_NAMED);
        BorrowedPages pages = Standing.shelf();
        for (int[] pair : Standing.BAD_AND_NOTHING) {
            doc.due("runs", pages.runs(pair[0], pair[1]), BAD);
        }
    }

    private void runsRefusedChangesNothing() {
        doc.sentence(13, Sentences.UNCHANGED);
        Standing.dueUnchanged(doc, BAD, p -> p.runs(0, 0), p -> p.runs(0, 6));
        Standing.dueUnchanged(doc, NOT, p -> p.runs(0, 5));
    }

    // ---- promise 14

    private void runOrder() {
        doc.sentence(14, "Of a RUN, by i, then by j");
        dueRuns(2, 1, "abxcd", "cdyab", Check.run(0, 3, 2), Check.run(3, 0, 2));
        dueRuns(2, 1, "ab", "abxabyab", Check.run(0, 0, 2), Check.run(0, 3, 2), Check.run(0, 6, 2));
        dueRuns(2, 1, "abxab", "abyab", Check.run(0, 0, 2), Check.run(0, 3, 2), Check.run(3, 0, 2), Check.run(3, 3, 2));
        // Neither the length nor the other BOOK comes first.
        dueRuns(2, 1, "abxcdef", "cdefyab", Check.run(0, 5, 2), Check.run(3, 0, 4));
        BorrowedPages many = manyRuns();
        doc.due("i of the last one of 169 runs", many.run(0, 1, 168, 0), 36);
        doc.due("j of the last one of 169 runs", many.run(0, 1, 168, 1), 36);
        doc.due("behind the last one of 169 runs", many.run(0, 1, 169, 0), BAD);
        BorrowedPages pages = longAndShort();
        doc.due("a run of the long ones", pages.run(0, 1, 2, 1), 2);
        doc.dueRuns(pages, 2, 3, Check.run(0, 0, 2), Check.run(3, 3, 2));
    }

    private void runParts() {
        doc.sentence(14, "0 i, 1 j, 2 n.");
        BorrowedPages pages = Check.letters(2, 1, "xabcz", "yywabc");
        doc.due("what 0", pages.run(0, 1, 0, 0), 1);
        doc.due("what 1", pages.run(0, 1, 0, 1), 3);
        doc.due("what 2", pages.run(0, 1, 0, 2), 3);
        doc.due("what 0 the other way", pages.run(1, 0, 0, 0), 3);
        doc.due("what 1 the other way", pages.run(1, 0, 0, 1), 1);
    }

    private void runBad() {
        doc.sentence(14, "BAD");
        BorrowedPages pages = Check.letters(2, 1, "abxcd", "abycd", "zz");
        for (int r : new int[] {LEAST, -2, -1, 2, 3, GREATEST}) {
            doc.due("run " + r + " of two", pages.run(0, 1, r, 0), BAD);
        }
        for (int what : new int[] {LEAST, -1, 3, 4, GREATEST}) {
            doc.due("what " + what, pages.run(0, 1, 0, what), BAD);
        }
        doc.due("run 0 of none", pages.run(0, 2, 0, 0), BAD);
        for (int book : Standing.NO_BOOKS) {
            doc.due("run of " + book, pages.run(book, 0, 0, 0), BAD);
            doc.due("run with " + book, pages.run(0, book, 0, 0), BAD);
        }
        doc.due("run of one", pages.run(1, 1, 0, 0), BAD);
    }

    private void runNot() {
        doc.sentence(14, "NOT");
        BorrowedPages pages = Check.letters(2, 1, "abxcd", "abycd");
        for (int r : new int[] {0, 2, 169, GREATEST}) {
            doc.due("run " + r + " with nothing", pages.run(0, 5, r, 0), NOT);
            doc.due("run " + r + " of nothing", pages.run(5, 0, r, 2), NOT);
            doc.due("run " + r + " of nothing at all", pages.run(5, 4, r, 1), NOT);
        }
    }

    private void runFirstNamed() {
        doc.sentence(14, Sentences.FIRST_NAMED);
        BorrowedPages pages = Check.letters(2, 1, "abxcd", "abycd");
        for (int[] nothing : new int[][] {{0, 5}, {5, 0}, {4, 5}}) {
            doc.due("what 3 of nothing", pages.run(nothing[0], nothing[1], 0, 3), BAD);
            doc.due("what -1 of nothing", pages.run(nothing[0], nothing[1], 0, -1), BAD);
            doc.due("run -1 of nothing", pages.run(nothing[0], nothing[1], -1, 0), BAD);
        }
        for (int[] pair : Standing.BAD_AND_NOTHING) {
            doc.due("run", pages.run(pair[0], pair[1], 0, 0), BAD);
        }
    }

    private void runRefusedChangesNothing() {
        doc.sentence(14, Sentences.UNCHANGED);
        Standing.dueUnchanged(doc, BAD, p -> p.run(0, 0, 0, 0), p -> p.run(0, 1, -1, 0), p -> p.run(0, 1, 0, 3),
                p -> p.run(0, 1, 99, 0));
        Standing.dueUnchanged(doc, NOT, p -> p.run(0, 5, 0, 0));
    }
}
