/**
 * Promises 1 to 5 at their bounds: a new object, type, book, withdraw, token. Refusals stand here as bare numbers,
 * so that a constant of the class that is not as told does not hide behind itself.
 */
final class BoundariesOfTexts {
    private static final int BAD = -1, NOT = -2, FULL = -3;
    private static final int LEAST = Standing.LEAST, GREATEST = Standing.GREATEST;
    private static final int[] NO_BOOKS = Standing.NO_BOOKS;

    private final Sentences doc;

    BoundariesOfTexts(Sentences doc) {
        this.doc = doc;
    }

    void ask() {
        newObject();
        newNoneGiven();
        newK();
        newW();
        newG();
        newT();
        newTape();
        mostCalls();
        typeOneToEight();
        typeHighestFirst();
        typeBehindTheTape();
        typeBadN();
        typeBadByte();
        typeFull();
        typeFullIsMinusThree();
        typeBadAheadOfFull();
        typeRefusedChangesNothing();
        withdrawn();
        withdrawnIsNothing();
        withdrawnNotGiven();
        withdrawnSize();
        withdrawBad();
        withdrawNot();
        withdrawNotIsMinusTwo();
        withdrawRefusedChangesNothing();
        tokenI();
        tokenOfABook();
        tokenBad();
        tokenNot();
        tokenBadAheadOfNot();
        tokenRefusedChangesNothing();
        tokenGreatest();
    }

    // ---- promise 1

    private void newObject() {
        doc.sentence(1, "No BOOKS.");
        BorrowedPages pages = new BorrowedPages();
        for (int what = 0; what < 4; what++) {
            doc.due("count " + what, pages.count(what), 0);
        }
        for (int book = 0; book < 6; book++) {
            doc.due("token", pages.token(book, -1), NOT);
            doc.due("hash", pages.hash(book, 0), NOT);
            doc.due("markAt", pages.markAt(book, -1), NOT);
            doc.due("aside", pages.aside(book, 0), NOT);
            doc.due("group", pages.group(book), NOT);
            doc.due("first", pages.first(book), NOT);
            doc.due("runs", pages.runs(book, (book + 1) % 6), NOT);
            doc.due("given", pages.given(book), NOT - 10);
            doc.due("withdraw", pages.withdraw(book), NOT);
        }
    }

    private void newNoneGiven() {
        doc.sentence(1, "GIVEN is one BOOK, or none (at first).");
        doc.due("given at first", new BorrowedPages().given(-1), -1);
    }

    private void newK() {
        doc.sentence(1, "With K (2 .. 5; 3 at first)");
        BorrowedPages pages = new BorrowedPages();
        Check.writeLetters(pages, 0, "abc");
        doc.due("hash of three", pages.hash(0, 0), Check.hash(1, 2, 3));
        doc.due("hash 1 of three", pages.hash(0, 1), -4);
    }

    private void newW() {
        doc.sentence(1, "and W (1 .. 8; 4 at first)");
        BorrowedPages pages = new BorrowedPages();
        // GRAMS that rise: the first one of each window is its MARK.
        Check.writeLetters(pages, 0, "abcdef");
        doc.dueMarks(pages, 0, 0);
        Check.writeLetters(pages, 0, "abcdefg");
        doc.dueMarks(pages, 0, 0, 1);
    }

    private void newG() {
        doc.sentence(1, "G (0 .. 20; 2 at first)");
        doc.due("gap at first", new BorrowedPages().gap(5), 2);
    }

    private void newT() {
        doc.sentence(1, "T (1 .. 200; 8 at first)");
        doc.due("link at first", new BorrowedPages().link(5), 8);
    }

    private void newTape() {
        doc.sentence(1, "No BOOKS.");
        doc.due("type on a new tape", new BorrowedPages().type('a', 1), 1);
        doc.due("book of a new tape", new BorrowedPages().book(0, 0, 0), 0);
    }

    private void mostCalls() {
        doc.sentence(1, "An object is used for at most 512 calls after it has been made");
        BorrowedPages pages = new BorrowedPages();
        int calls = 0;
        for (int round = 0; calls + 5 < 512; round++) {
            doc.due("type in round " + round, pages.type(Check.packed("a b c d"), 7), 7);
            doc.due("book in round " + round, pages.book(round % 6, 0, round), 4);
            doc.due("day in round " + round, pages.token(round % 6, -3), round);
            doc.due("withdraw in round " + round, pages.withdraw((round + 1) % 6), round < 5 ? NOT : 4);
            doc.due("count in round " + round, pages.count(0), Math.min(round + 1, 5));
            calls += 5;
        }
        doc.due("call 511", pages.type('a', 1), 1);
        doc.due("call 512", pages.book(0, 0, 9999), 1);
    }

    // ---- promise 2

    private void typeOneToEight() {
        doc.sentence(2, "The n lowest bytes (1 .. 8) of w");
        BorrowedPages pages = new BorrowedPages();
        int length = 0;
        for (int n = 1; n <= 8; n++) {
            length += n;
            doc.due("type n " + n, pages.type(Check.packed("+-*/=<>!"), n), length);
        }
        for (int n = 1; n <= 8; n++) {
            BorrowedPages lowest = new BorrowedPages();
            lowest.type(Check.packed("+-*/=<>!"), n);
            lowest.book(0, 1, 0);
            doc.due("the first one of " + n, lowest.token(0, 0), 100 + "+-*/=<>!".charAt(8 - n));
            doc.due("the last one of " + n, lowest.token(0, n - 1), 133);
        }
        // Bytes that are no text do not matter above the n lowest ones, and zeroes do not stand for them.
        doc.due("type above n: 0", pages.type('a', 1), length + 1);
        doc.due("type above n: 255", pages.type(-256L | 'a', 1), length + 2);
        doc.due("type above n: 31", pages.type(0x1F1F1F1F1F1F1F61L, 1), length + 3);
        doc.due("type above n: 127", pages.type(0x7F61616161616161L, 7), length + 10);
    }

    private void typeHighestFirst() {
        doc.sentence(2, "of these the highest first");
        BorrowedPages pages = new BorrowedPages();
        pages.type(0x2B2D2A2F3D3C3E21L, 8);
        pages.book(0, 1, 0);
        doc.dueTokens(pages, 0, 143, 145, 142, 147, 161, 160, 162, 133);
        pages.type(0x2B2D2A2F3D3C3E21L, 3);
        pages.book(0, 1, 0);
        doc.dueTokens(pages, 0, 160, 162, 133);
    }

    private void typeBehindTheTape() {
        doc.sentence(2, "come behind THE TAPE: how many it has.");
        BorrowedPages pages = new BorrowedPages();
        doc.due("type ab", pages.type(Check.packed("ab"), 2), 2);
        doc.due("type cd", pages.type(Check.packed("cd"), 2), 4);
        doc.due("type a space", pages.type(' ', 1), 5);
        doc.due("type e", pages.type('e', 1), 6);
        doc.due("book", pages.book(0, 0, 0), 2);
        doc.dueTokens(pages, 0, Check.prose("abcd"), 5);
    }

    private void typeBadN() {
        doc.sentence(2, "BAD: n");
        BorrowedPages pages = new BorrowedPages();
        for (int n : new int[] {LEAST, -8, -1, 0, 9, 16, GREATEST}) {
            doc.due("type n " + n, pages.type(Check.packed("abcdefgh"), n), BAD);
        }
    }

    private void typeBadByte() {
        doc.sentence(2, "a byte not 32 .. 126");
        for (int place = 0; place < 8; place++) {
            for (int one : new int[] {0, 31, 127, 128, 160, 255}) {
                long w = Check.packed("aaaaaaaa") & ~(255L << 8 * place) | (long) one << 8 * place;
                BorrowedPages pages = new BorrowedPages();
                doc.due("type byte " + one + " at " + place, pages.type(w, 8), BAD);
                doc.due("type byte " + one + " as the highest of n", pages.type(w, place + 1), BAD);
            }
            for (int one : new int[] {32, 126}) {
                long w = Check.packed("aaaaaaaa") & ~(255L << 8 * place) | (long) one << 8 * place;
                doc.due("type byte " + one + " at " + place, new BorrowedPages().type(w, 8), 8);
            }
        }
    }

    /** A tape of so many signs. */
    private static BorrowedPages taped(int length) {
        BorrowedPages pages = new BorrowedPages();
        Check.typeAll(pages, "+".repeat(length));
        return pages;
    }

    private void typeFull() {
        doc.sentence(2, "FULL: 240.");
        for (int n = 1; n <= 8; n++) {
            doc.due("type " + n + " to 240", taped(240 - n).type(Check.packed("aaaaaaaa"), n), 240);
            doc.due("type " + n + " to 241", taped(241 - n).type(Check.packed("aaaaaaaa"), n), FULL);
            doc.due("type " + n + " behind 240", taped(240).type(Check.packed("aaaaaaaa"), n), FULL);
        }
        BorrowedPages pages = new BorrowedPages();
        Check.typeAll(pages, " ".repeat(239) + "z");
        doc.due("book of 240 bytes", pages.book(0, 0, 0), 1);
        doc.due("the last one of 240 bytes", pages.token(0, 0), 26);
    }

    private void typeFullIsMinusThree() {
        doc.sentence(2, "FULL -3");
        doc.due("FULL", BorrowedPages.FULL, -3);
        doc.due("type behind 240", taped(240).type('a', 1), -3);
    }

    private void typeBadAheadOfFull() {
        doc.sentence(2, Sentences.FIRST_NAMED);
        BorrowedPages pages = taped(240);
        doc.due("type n 0 behind 240", pages.type('a', 0), BAD);
        doc.due("type n 9 behind 240", pages.type('a', 9), BAD);
        doc.due("type byte 31 behind 240", pages.type(31, 1), BAD);
        doc.due("type byte 127 behind 239", taped(239).type(0x7F61, 2), BAD);
    }

    private void typeRefusedChangesNothing() {
        doc.sentence(2, Sentences.UNCHANGED);
        Standing.dueUnchanged(doc, BAD, p -> p.type('a', 0), p -> p.type('a', 9), p -> p.type(31, 1),
                p -> p.type(0x6161616161616100L, 8), p -> p.type(0x7F61616161616161L, 8));
        BorrowedPages pages = taped(238);
        doc.due("type past 240", pages.type(Check.packed("abc"), 3), FULL);
        doc.due("type to 240", pages.type(Check.packed(" z"), 2), 240);
        pages.book(0, 0, 0);
        doc.dueTokens(pages, 0, 26);
    }

    // ---- promise 4

    private void withdrawn() {
        doc.sentence(4, "A BOOK is withdrawn");
        BorrowedPages pages = Standing.shelf();
        doc.due("withdraw 1", pages.withdraw(1), 7);
        doc.due("books", pages.count(0), 3);
        doc.due("a book behind it", pages.token(2, -1), 5);
        doc.due("a book ahead of it", pages.token(0, -1), 7);
        doc.due("withdraw 0", pages.withdraw(0), 7);
        doc.due("withdraw 2", pages.withdraw(2), 5);
        doc.due("withdraw 3", pages.withdraw(3), 3);
        doc.due("no books", pages.count(0), 0);
        doc.due("the tape stays", pages.book(5, 1, 0), 2);
        doc.due("the last book", pages.withdraw(5), 2);
    }

    private void withdrawnIsNothing() {
        doc.sentence(4, "or withdrawn (nothing)");
        BorrowedPages pages = Standing.shelf();
        pages.withdraw(0);
        for (int i : new int[] {-3, -2, -1, 0}) {
            doc.due("token " + i, pages.token(0, i), NOT);
        }
        doc.due("hash", pages.hash(0, 0), NOT);
        doc.due("markAt", pages.markAt(0, -1), NOT);
        doc.due("aside", pages.aside(0, 0), NOT);
        doc.due("runs", pages.runs(0, 1), NOT);
        doc.due("group", pages.group(0), NOT);
        doc.due("first", pages.first(0), NOT);
        doc.due("chance", pages.chance(1, 0), NOT);
        doc.due("given", pages.given(0), NOT - 10);
        doc.due("a book again", pages.book(0, 1, 1), 2);
        doc.due("its day", pages.token(0, -3), 1);
    }

    private void withdrawnNotGiven() {
        doc.sentence(4, "(it is not GIVEN any more, too)");
        BorrowedPages pages = Standing.shelf();
        doc.due("aside while given", pages.aside(0, 4), 1);
        pages.withdraw(3);
        doc.due("aside", pages.aside(0, 4), 0);
        doc.due("given when withdrawn", pages.given(-1), -1);
        BorrowedPages anew = Standing.shelf();
        anew.withdraw(3);
        anew.book(3, 0, 0);
        doc.due("given when written anew", anew.given(-1), -1);
        BorrowedPages other = Standing.shelf();
        other.withdraw(0);
        doc.due("given when another one is withdrawn", other.given(-1), 3);
        BorrowedPages zero = Standing.shelf();
        zero.given(0);
        zero.withdraw(0);
        doc.due("given 0 when withdrawn", zero.given(-1), -1);
    }

    private void withdrawnSize() {
        doc.sentence(4, "how many TOKENS it had.");
        for (int size : new int[] {0, 1, 39, 40}) {
            BorrowedPages pages = new BorrowedPages();
            Check.writeLetters(pages, 5, "a".repeat(size));
            doc.due("withdraw a book of " + size, pages.withdraw(5), size);
        }
    }

    private void withdrawBad() {
        doc.sentence(4, "BAD");
        BorrowedPages pages = Standing.shelf();
        for (int book : NO_BOOKS) {
            doc.due("withdraw " + book, pages.withdraw(book), BAD);
        }
    }

    private void withdrawNot() {
        doc.sentence(4, "NOT: it is nothing.");
        BorrowedPages pages = Standing.shelf();
        doc.due("withdraw what never was", pages.withdraw(4), NOT);
        doc.due("withdraw the last one that never was", pages.withdraw(5), NOT);
        pages.withdraw(0);
        doc.due("withdraw again", pages.withdraw(0), NOT);
        pages.book(4, 0, 0);
        pages.book(5, 0, 0);
        doc.due("withdraw an empty book", pages.withdraw(5), 0);
        doc.due("withdraw an empty book again", pages.withdraw(5), NOT);
    }

    private void withdrawNotIsMinusTwo() {
        doc.sentence(4, "NOT -2 (as told)");
        doc.due("NOT", BorrowedPages.NOT, -2);
        doc.due("withdraw of nothing", new BorrowedPages().withdraw(0), -2);
    }

    private void withdrawRefusedChangesNothing() {
        doc.sentence(4, Sentences.UNCHANGED);
        Standing.dueUnchanged(doc, BAD, p -> p.withdraw(-1), p -> p.withdraw(6), p -> p.withdraw(LEAST),
                p -> p.withdraw(GREATEST));
        Standing.dueUnchanged(doc, NOT, p -> p.withdraw(4), p -> p.withdraw(5));
    }

    // ---- promise 5

    private void tokenI() {
        doc.sentence(5, "TOKEN i of a BOOK");
        BorrowedPages pages = new BorrowedPages();
        Check.writeLetters(pages, 0, "abcdefghijklmnopqrstuvwxyzabcdefghijklmn");
        doc.due("token 0", pages.token(0, 0), 1);
        doc.due("token 1", pages.token(0, 1), 2);
        doc.due("token 38", pages.token(0, 38), 13);
        doc.due("token 39", pages.token(0, 39), 14);
    }

    private void tokenOfABook() {
        doc.sentence(5, "i = -1: how many; -2: its LANGUAGE; -3: its DAY.");
        BorrowedPages pages = new BorrowedPages();
        Check.write(pages, 0, 0, 9999, "a ".repeat(50));
        Check.write(pages, 1, 1, 0, "");
        doc.due("how many", pages.token(0, -1), 40);
        doc.due("language", pages.token(0, -2), 0);
        doc.due("day", pages.token(0, -3), 9999);
        doc.due("how many of none", pages.token(1, -1), 0);
        doc.due("language of none", pages.token(1, -2), 1);
        doc.due("day of none", pages.token(1, -3), 0);
    }

    private void tokenBad() {
        doc.sentence(5, "BAD");
        BorrowedPages pages = new BorrowedPages();
        Check.writeLetters(pages, 0, "abc");
        Check.writeLetters(pages, 1, "a".repeat(40));
        Check.writeLetters(pages, 2, "");
        for (int i : new int[] {LEAST, -5, -4, 3, 39, 40, GREATEST}) {
            doc.due("token " + i + " of three", pages.token(0, i), BAD);
        }
        doc.due("token 40 of forty", pages.token(1, 40), BAD);
        doc.due("token 0 of none", pages.token(2, 0), BAD);
        for (int book : NO_BOOKS) {
            doc.due("token of " + book, pages.token(book, 0), BAD);
            doc.due("how many of " + book, pages.token(book, -1), BAD);
        }
        // What was longer once leaves nothing behind its end.
        Check.writeLetters(pages, 1, "ab");
        doc.due("token 2 of two", pages.token(1, 2), BAD);
    }

    private void tokenNot() {
        doc.sentence(5, "NOT: it is nothing.");
        BorrowedPages pages = Standing.shelf();
        pages.withdraw(0);
        for (int i : new int[] {-3, -2, -1, 0, 6, 7, 39, 40, GREATEST}) {
            doc.due("token " + i + " of a withdrawn book", pages.token(0, i), NOT);
            doc.due("token " + i + " of no book yet", pages.token(5, i), NOT);
        }
    }

    private void tokenBadAheadOfNot() {
        doc.sentence(5, Sentences.FIRST_NAMED);
        BorrowedPages pages = Standing.shelf();
        doc.due("token -4 of nothing", pages.token(5, -4), BAD);
        doc.due("token least of nothing", pages.token(5, LEAST), BAD);
        doc.due("token -4 of 6", pages.token(6, -4), BAD);
    }

    private void tokenRefusedChangesNothing() {
        doc.sentence(5, Sentences.UNCHANGED);
        Standing.dueUnchanged(doc, BAD, p -> p.token(-1, 0), p -> p.token(6, 0), p -> p.token(0, -4), p -> p.token(0, 7));
        Standing.dueUnchanged(doc, NOT, p -> p.token(4, 0));
    }

    private void tokenGreatest() {
        doc.sentence(5, "(TOKENS are up to 37^6 - 1.)");
        BorrowedPages pages = new BorrowedPages();
        Check.write(pages, 0, 0, 0, "Z99999 z999999 z99998 zzzzzz aaaaaa a");
        doc.dueTokens(pages, 0, 1872286838L, 1872286838L, 1872286837L, 1853024628L, 71270178L, 1);
        // Of 37^6 - 1 a word falls short by its first byte, a letter: 999999 is a NUMBER.
        doc.due("999999", Check.write(pages, 0, 0, 0, "999999"), 0);
    }
}
