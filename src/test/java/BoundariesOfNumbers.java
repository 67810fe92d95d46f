import java.util.Arrays;

/** Promises 6 to 9 at their bounds: windows, gap, link, given. */
final class BoundariesOfNumbers {
    private static final int BAD = -1, NOT = -2;
    private static final int LEAST = Standing.LEAST, GREATEST = Standing.GREATEST;

    private final Sentences doc;

    BoundariesOfNumbers(Sentences doc) {
        this.doc = doc;
    }

    void ask() {
        windows();
        windowsK();
        windowsW();
        windowsBad();
        windowsRefusedChangesNothing();
        gap();
        gapBounds();
        gapBad();
        gapRefusedChangesNothing();
        link();
        linkBounds();
        linkBad();
        linkRefusedChangesNothing();
        given();
        givenNone();
        givenWhichOneWas();
        givenBad();
        givenNot();
        givenRefusedChangesNothing();
    }

    // ---- promise 6

    private void windows() {
        doc.sentence(6, "K, W: 1.");
        BorrowedPages pages = new BorrowedPages();
        for (int k = 2; k <= 5; k++) {
            for (int w = 1; w <= 8; w++) {
                doc.due("windows(" + k + ", " + w + ")", pages.windows(k, w), 1);
            }
        }
        doc.due("windows as they are", pages.windows(5, 8), 1);
    }

    private void windowsK() {
        doc.sentence(6, "With K (2 .. 5; 3 at first)");
        BorrowedPages pages = new BorrowedPages();
        Check.writeLetters(pages, 0, "abcdefg");
        for (int k = 2; k <= 5; k++) {
            pages.windows(k, 1);
            long[] last = Arrays.copyOfRange(new long[] {1, 2, 3, 4, 5, 6, 7}, 7 - k, 7);
            doc.due("the last gram of " + k, pages.hash(0, 7 - k), Check.hash(last));
            doc.due("a gram behind the last one of " + k, pages.hash(0, 8 - k), -4);
        }
        doc.due("k 1", pages.windows(1, 4), BAD);
        doc.due("k 6", pages.windows(6, 4), BAD);
    }

    private void windowsW() {
        doc.sentence(6, "and W (1 .. 8; 4 at first)");
        BorrowedPages pages = new BorrowedPages();
        // Ten GRAMS that rise: as many MARKS as windows.
        Check.writeLetters(pages, 0, "abcdefghijk");
        for (int w = 1; w <= 8; w++) {
            pages.windows(2, w);
            doc.due("marks of windows of " + w, pages.markAt(0, -1), 11 - w);
        }
        doc.due("w 0", pages.windows(2, 0), BAD);
        doc.due("w 9", pages.windows(2, 9), BAD);
    }

    private void windowsBad() {
        doc.sentence(6, "BAD.");
        BorrowedPages pages = new BorrowedPages();
        for (int k : new int[] {LEAST, -1, 0, 1, 6, 7, GREATEST}) {
            doc.due("k " + k, pages.windows(k, 4), BAD);
        }
        for (int w : new int[] {LEAST, -1, 0, 9, 10, GREATEST}) {
            doc.due("w " + w, pages.windows(3, w), BAD);
        }
        doc.due("both", pages.windows(1, 9), BAD);
        doc.due("w in place of k", pages.windows(8, 2), BAD);
    }

    private void windowsRefusedChangesNothing() {
        doc.sentence(6, Sentences.UNCHANGED);
        Standing.dueUnchanged(doc, BAD, p -> p.windows(1, 4), p -> p.windows(6, 4), p -> p.windows(3, 0), p -> p.windows(3, 9),
                p -> p.windows(LEAST, 1), p -> p.windows(5, GREATEST));
    }

    // ---- promise 7

    private void gap() {
        doc.sentence(7, "G: what it was.");
        BorrowedPages pages = new BorrowedPages();
        doc.due("gap 5", pages.gap(5), 2);
        doc.due("gap 6", pages.gap(6), 5);
        doc.due("gap 6 again", pages.gap(6), 6);
        doc.due("gap 2", pages.gap(2), 6);
        doc.due("gap 2 again", pages.gap(2), 2);
    }

    private void gapBounds() {
        doc.sentence(7, "G (0 .. 20; 2 at first)");
        BorrowedPages pages = new BorrowedPages();
        doc.due("gap 0", pages.gap(0), 2);
        doc.due("gap -1", pages.gap(-1), BAD);
        doc.due("gap 20", pages.gap(20), 0);
        doc.due("gap 21", pages.gap(21), BAD);
        doc.due("gap 19", pages.gap(19), 20);
        doc.due("gap 1", pages.gap(1), 19);
        doc.due("gap", pages.gap(1), 1);
    }

    private void gapBad() {
        doc.sentence(7, "BAD.");
        BorrowedPages pages = new BorrowedPages();
        for (int g : new int[] {LEAST, -2, -1, 21, 22, GREATEST}) {
            doc.due("gap " + g, pages.gap(g), BAD);
        }
    }

    private void gapRefusedChangesNothing() {
        doc.sentence(7, Sentences.UNCHANGED);
        Standing.dueUnchanged(doc, BAD, p -> p.gap(-1), p -> p.gap(21), p -> p.gap(LEAST), p -> p.gap(GREATEST));
    }

    // ---- promise 8

    private void link() {
        doc.sentence(8, "T: what it was.");
        BorrowedPages pages = new BorrowedPages();
        doc.due("link 5", pages.link(5), 8);
        doc.due("link 6", pages.link(6), 5);
        doc.due("link 6 again", pages.link(6), 6);
        doc.due("link 8", pages.link(8), 6);
        doc.due("link 8 again", pages.link(8), 8);
    }

    private void linkBounds() {
        doc.sentence(8, "T (1 .. 200; 8 at first)");
        BorrowedPages pages = new BorrowedPages();
        doc.due("link 1", pages.link(1), 8);
        doc.due("link 0", pages.link(0), BAD);
        doc.due("link 200", pages.link(200), 1);
        doc.due("link 201", pages.link(201), BAD);
        doc.due("link 199", pages.link(199), 200);
        doc.due("link 2", pages.link(2), 199);
        doc.due("link", pages.link(2), 2);
    }

    private void linkBad() {
        doc.sentence(8, "BAD.");
        BorrowedPages pages = new BorrowedPages();
        for (int t : new int[] {LEAST, -1, 0, 201, 202, GREATEST}) {
            doc.due("link " + t, pages.link(t), BAD);
        }
    }

    private void linkRefusedChangesNothing() {
        doc.sentence(8, Sentences.UNCHANGED);
        Standing.dueUnchanged(doc, BAD, p -> p.link(0), p -> p.link(201), p -> p.link(LEAST), p -> p.link(GREATEST));
    }

    // ---- promise 9

    private void given() {
        doc.sentence(9, "A BOOK is GIVEN");
        BorrowedPages pages = Standing.shelf();
        doc.dueAside(pages, 0, "0000111");
        doc.due("given 1", pages.given(1), 3);
        doc.dueAside(pages, 0, "1110111");
        doc.dueAside(pages, 3, "111");
        doc.due("given 0", pages.given(0), 1);
        doc.dueAside(pages, 0, "0000000");
        doc.due("given 0 again", pages.given(0), 0);
        doc.dueAside(pages, 1, "1110111");
        pages.book(5, 0, 0);
        pages.withdraw(0);
        doc.due("an empty book", pages.given(5), -1);
        doc.due("an empty book is given", pages.given(1), 5);
    }

    private void givenNone() {
        doc.sentence(9, "(-1: none)");
        BorrowedPages pages = Standing.shelf();
        doc.due("given none", pages.given(-1), 3);
        doc.dueAside(pages, 0, "0000000");
        doc.due("given none again", pages.given(-1), -1);
        doc.due("given none of no books", new BorrowedPages().given(-1), -1);
    }

    private void givenWhichOneWas() {
        doc.sentence(9, "which one was (-1: none).");
        BorrowedPages pages = new BorrowedPages();
        for (int book = 0; book < 6; book++) {
            pages.book(book, 0, 0);
        }
        for (int book = 0; book < 6; book++) {
            doc.due("given " + book, pages.given(book), book - 1);
        }
        doc.due("given 5 again", pages.given(5), 5);
        doc.due("given none", pages.given(-1), 5);
        doc.due("given 0", pages.given(0), -1);
        doc.due("given none", pages.given(-1), 0);
    }

    private void givenBad() {
        doc.sentence(9, "BAD less 10 (-11)");
        BorrowedPages pages = Standing.shelf();
        for (int book : new int[] {LEAST, -12, -3, -2, 6, 7, GREATEST}) {
            doc.due("given " + book, pages.given(book), -11);
        }
    }

    private void givenNot() {
        doc.sentence(9, "NOT less 10 (-12): it is nothing.");
        BorrowedPages pages = Standing.shelf();
        doc.due("given what never was", pages.given(5), -12);
        doc.due("given what never was", pages.given(4), -12);
        pages.withdraw(0);
        doc.due("given what was withdrawn", pages.given(0), -12);
        pages.withdraw(3);
        doc.due("given what was given and withdrawn", pages.given(3), -12);
    }

    private void givenRefusedChangesNothing() {
        doc.sentence(9, Sentences.UNCHANGED);
        Standing.dueUnchanged(doc, BAD - 10, p -> p.given(-2), p -> p.given(6), p -> p.given(LEAST), p -> p.given(GREATEST));
        Standing.dueUnchanged(doc, NOT - 10, p -> p.given(4), p -> p.given(5));
    }
}
