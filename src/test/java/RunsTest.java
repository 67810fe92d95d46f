/**
 * Promises 13 to 17: runs, run, score, chain, covered. With W = 1 each GRAM is a MARK, so each
 * shared stretch of K TOKENS or more is a RUN.
 */
public final class RunsTest {
    private static final int BAD = BorrowedPages.BAD, NOT = BorrowedPages.NOT;
    private static final Check check = new Check();

    public static void main(String[] args) {
        promise13Runs();
        promise13Marks();
        promise13Aside();
        promise14Run();
        promise15Score();
        promise16Chain();
        promise16Ties();
        promise16BehindInBoth();
        promise17Covered();
        refusals();
        mostRuns();
        check.end();
    }

    private static BorrowedPages pair(int k, int w, String first, String second) {
        BorrowedPages pages = new BorrowedPages();
        pages.windows(k, w);
        Check.writeLetters(pages, 0, first);
        Check.writeLetters(pages, 1, second);
        return pages;
    }

    private static int[] run(int i, int j, int n) {
        return new int[] {i, j, n};
    }

    private static void promise13Runs() {
        BorrowedPages pages = pair(2, 1, "abcdxefgh", "abcdyefgh");
        check.dueRuns(pages, 0, 1, run(0, 0, 4), run(5, 5, 4));
        pages.windows(5, 1);
        check.dueRuns(pages, 0, 1);
        pages.windows(4, 1);
        check.dueRuns(pages, 1, 0, run(0, 0, 4), run(5, 5, 4));
        BorrowedPages whole = pair(3, 4, "abcdefghijabcdefghijabcdefghijabcdefghij", "abcdefghij");
        check.dueRuns(whole, 0, 1, run(0, 0, 10), run(10, 0, 10), run(20, 0, 10), run(30, 0, 10));
        BorrowedPages tongues = new BorrowedPages();
        tongues.windows(2, 1);
        Check.write(tongues, 0, Check.CODE, 0, "a b c d");
        Check.write(tongues, 1, Check.PROSE, 0, "f f f f");
        check.due("one language ahead", tongues.token(0, 0), tongues.token(1, 0));
        check.dueRuns(tongues, 0, 1);
        Check.write(tongues, 1, Check.CODE, 0, "f f f");
        check.dueRuns(tongues, 0, 1, run(0, 0, 3), run(0, 1, 2), run(1, 0, 3), run(2, 0, 2));
    }

    private static void promise13Marks() {
        BorrowedPages markOfOne = pair(2, 8, "cdab", "cdzy");
        check.dueRuns(markOfOne, 0, 1);
        check.dueRuns(markOfOne, 1, 0);
        markOfOne.windows(2, 1);
        check.dueRuns(markOfOne, 0, 1, run(0, 0, 2));
        BorrowedPages markSticksOut = pair(2, 8, "zba", "zbc");
        check.dueMarks(markSticksOut, 0, 1);
        check.dueMarks(markSticksOut, 1, 1);
        check.dueRuns(markSticksOut, 0, 1);
        BorrowedPages markAtEnd = pair(2, 8, "xyzab", "zab");
        check.dueRuns(markAtEnd, 0, 1, run(2, 0, 3));
    }

    private static void promise13Aside() {
        BorrowedPages pages = pair(2, 3, "abcdefghijkl", "abcdefghijkl");
        check.dueRuns(pages, 0, 1, run(0, 0, 12));
        Check.writeLetters(pages, 2, "zefghz");
        pages.given(2);
        check.dueRuns(pages, 0, 1, run(0, 0, 4), run(8, 8, 4));
        Check.writeLetters(pages, 2, "abcd");
        check.dueRuns(pages, 0, 1, run(4, 4, 8));
        pages.given(0);
        check.dueRuns(pages, 0, 1);
        check.dueRuns(pages, 1, 0);
        Check.writeLetters(pages, 0, "abcz");
        check.dueRuns(pages, 0, 1, run(0, 0, 3));
        check.dueRuns(pages, 1, 2, run(0, 0, 4));
        // Tokens set aside are marks all the same, and gone from runs in the one book alone.
        BorrowedPages oneSided = pair(2, 2, "abcxbc", "bcxyz");
        Check.writeLetters(oneSided, 2, "abc");
        oneSided.given(2);
        check.dueAside(oneSided, 0, "111000");
        check.dueAside(oneSided, 1, "00000");
        check.dueRuns(oneSided, 0, 1, run(4, 0, 2));
        check.dueRuns(oneSided, 1, 0, run(0, 4, 2));
    }

    private static void promise14Run() {
        BorrowedPages pages = pair(2, 1, "abxab", "abyabz");
        check.dueRuns(pages, 0, 1, run(0, 0, 2), run(0, 3, 2), run(3, 0, 2), run(3, 3, 2));
        check.due("run what 3", pages.run(0, 1, 0, 3), BAD);
        check.due("run what -1", pages.run(0, 1, 0, -1), BAD);
        check.due("run -1", pages.run(0, 1, -1, 0), BAD);
        check.due("run greatest", pages.run(0, 1, Integer.MAX_VALUE, 2), BAD);
        check.due("run 4", pages.run(0, 1, 4, 2), BAD);
        check.due("run of nothing", pages.run(0, 2, 0, 0), NOT);
        check.due("run 100 of nothing", pages.run(0, 2, 100, 0), NOT);
        check.due("run -1 of nothing", pages.run(0, 2, -1, 0), BAD);
        check.due("run what 3 of nothing", pages.run(2, 0, 0, 3), BAD);
        check.due("run of one", pages.run(0, 0, 0, 0), BAD);
    }

    private static void promise15Score() {
        BorrowedPages pages = pair(2, 1, "abcdxefgh", "abcdyefgh");
        check.due("score", pages.score(0, 1), 6);
        check.due("score the other way", pages.score(1, 0), 6);
        pages.gap(0);
        check.due("score, gap 0", pages.score(0, 1), 8);
        pages.gap(3);
        check.due("score, gap 3", pages.score(0, 1), 5);
        pages.gap(20);
        check.due("score, gap 20", pages.score(0, 1), 4);
        BorrowedPages apart = pair(2, 1, "abcd", "efgh");
        check.due("score without runs", apart.score(0, 1), 0);
        // A run between that costs more than it brings is left out; two small ones beat one great one that crosses.
        BorrowedPages three = pair(2, 1, "abcdexfgyhijkl", "abcdezfgwhijkl");
        three.gap(3);
        check.due("score leaves a small run", three.score(0, 1), 5 + 5 - 3);
        check.dueChain(three, 0, 1, 0, 2);
        BorrowedPages crossing = pair(2, 1, "abcdexpqrystu", "pqrzstuwabcde");
        crossing.gap(0);
        check.due("score of two behind", crossing.score(0, 1), 6);
        check.dueChain(crossing, 0, 1, 1, 2);
        crossing.gap(2);
        check.due("score of one across", crossing.score(0, 1), 5);
        check.dueChain(crossing, 0, 1, 0);
    }

    private static void promise16Chain() {
        BorrowedPages pages = pair(2, 1, "abxcdyef", "abzcdwef");
        pages.gap(1);
        check.dueChain(pages, 0, 1, 0, 1, 2);
        check.due("score", pages.score(0, 1), 4);
        pages.gap(3);
        check.dueChain(pages, 0, 1, 0);
        check.due("chain -2", pages.chain(0, 1, -2), BAD);
        check.due("chain greatest", pages.chain(0, 1, Integer.MAX_VALUE), BAD);
        check.due("chain -2 of nothing", pages.chain(0, 2, -2), BAD);
        check.due("chain of nothing", pages.chain(0, 2, 0), NOT);
        check.due("chain 100 of nothing", pages.chain(2, 0, 100), NOT);
        check.dueChain(pair(2, 1, "abcd", "efgh"), 0, 1);
    }

    private static void promise16Ties() {
        BorrowedPages restPaysItsGap = pair(2, 1, "abxcdyef", "abzcdwef");
        check.due("score", restPaysItsGap.score(0, 1), 2);
        check.dueChain(restPaysItsGap, 0, 1, 0, 1, 2);
        BorrowedPages lesserI = pair(2, 1, "abxcd", "cdyab");
        check.dueRuns(lesserI, 0, 1, run(0, 3, 2), run(3, 0, 2));
        check.dueChain(lesserI, 0, 1, 0);
        BorrowedPages lesserJ = pair(2, 1, "ab", "abxab");
        check.dueChain(lesserJ, 0, 1, 0);
        check.dueChain(lesserJ, 1, 0, 0);
        // The first run decides, though what follows it comes sooner behind the other one.
        BorrowedPages second = pair(2, 1, "abxabycd", "abzcdwcd");
        second.gap(0);
        check.dueRuns(second, 0, 1, run(0, 0, 2), run(3, 0, 2), run(6, 3, 2), run(6, 6, 2));
        check.dueChain(second, 0, 1, 0, 2);
        check.due("covered", second.covered(0, 1), 4);
    }

    private static void promise16BehindInBoth() {
        BorrowedPages touching = pair(2, 1, "abcd", "abxcd");
        touching.gap(0);
        check.due("score of touching runs", touching.score(0, 1), 4);
        check.dueChain(touching, 0, 1, 0, 1);
        BorrowedPages overlapping = pair(2, 1, "abxbc", "abc");
        overlapping.gap(0);
        check.dueRuns(overlapping, 0, 1, run(0, 0, 2), run(3, 1, 2));
        check.due("score of runs over one token", overlapping.score(0, 1), 2);
        check.dueChain(overlapping, 0, 1, 0);
        check.due("score the other way", overlapping.score(1, 0), 2);
        check.dueChain(overlapping, 1, 0, 0);
    }

    private static void promise17Covered() {
        BorrowedPages pages = pair(2, 1, "abcdxefgh", "abcdyefgh");
        check.due("covered", pages.covered(0, 1), 8);
        pages.gap(20);
        check.due("covered by one run", pages.covered(0, 1), 4);
        pages.gap(4);
        check.due("covered at a like score", pages.covered(0, 1), 8);
        check.due("covered by nothing", pair(2, 1, "abcd", "efgh").covered(0, 1), 0);
    }

    private static void refusals() {
        BorrowedPages pages = pair(2, 1, "abcd", "abcd");
        int[][] pairs = {{-1, 0}, {0, -1}, {6, 0}, {0, 6}, {0, 0}, {5, 5}, {-1, 5}, {5, 6}};
        for (int[] of : pairs) {
            duePair(pages, of[0], of[1], BAD);
        }
        duePair(pages, 0, 5, NOT);
        duePair(pages, 5, 0, NOT);
        duePair(pages, 4, 5, NOT);
    }

    private static void duePair(BorrowedPages pages, int a, int b, int want) {
        String of = "(" + a + ", " + b + ")";
        check.due("runs" + of, pages.runs(a, b), want);
        check.due("run" + of, pages.run(a, b, 0, 0), want);
        check.due("score" + of, pages.score(a, b), want);
        check.due("chain" + of, pages.chain(a, b, -1), want);
        check.due("covered" + of, pages.covered(a, b), want);
        check.due("chance" + of, pages.chance(a, b), want);
    }

    private static void mostRuns() {
        BorrowedPages alike = pair(2, 1, "a".repeat(40), "a".repeat(40));
        check.due("runs of forty alike", alike.runs(0, 1), 77);
        check.due("score of forty alike", alike.score(0, 1), 40);
        check.due("chance of forty alike", alike.chance(0, 1), 40);
        BorrowedPages thirds = pair(2, 1, "aab".repeat(13) + "a", "aac".repeat(13) + "a");
        thirds.gap(0);
        check.due("runs of thirds", thirds.runs(0, 1), 169);
        check.due("score of thirds", thirds.score(0, 1), 26);
        check.due("chain of thirds", thirds.chain(0, 1, -1), 13);
        check.due("chain of thirds, last", thirds.chain(0, 1, 12), 168);
    }
}
