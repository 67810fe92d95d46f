/** Promise 3 at its bounds: book, and how a TEXT is read into TOKENS. */
final class BoundariesOfReading {
    private static final int BAD = -1, NOT = -2;
    private static final int PROSE = 0, CODE = 1;
    private static final int LEAST = Standing.LEAST, GREATEST = Standing.GREATEST;

    private final Sentences doc;

    BoundariesOfReading(Sentences doc) {
        this.doc = doc;
    }

    void ask() {
        tapeIsABook();
        inPlace();
        howMany();
        badTapeStays();
        bad();
        refusedChangesNothing();
        booksZeroToFive();
        fortyAtMost();
        language();
        day();
        text();
        parting();
        letters();
        digitsInWords();
        numbers();
        signs();
        proseCountsWords();
        proseSixLetters();
        proseValues();
        proseFewer();
        proseFirstHighest();
        proseNoNumbers();
        codeKeywords();
        codeOtherWords();
        codeNumbers();
        codeSigns();
    }

    private void dueText(int language, String text, long... want) {
        BorrowedPages pages = new BorrowedPages();
        doc.due("book of '" + text + "'", Check.write(pages, 3, language, 0, text), want.length);
        for (int i = 0; i < want.length; i++) {
            doc.due("token " + i + " of '" + text + "'", pages.token(3, i), want[i]);
        }
    }

    private void tapeIsABook() {
        doc.sentence(3, "THE TAPE, which is empty then, is a BOOK");
        BorrowedPages pages = new BorrowedPages();
        Check.typeAll(pages, "one two");
        doc.due("book", pages.book(0, PROSE, 0), 2);
        doc.due("book of the tape, empty then", pages.book(1, PROSE, 0), 0);
        doc.due("an empty book is a book", pages.count(0), 2);
        doc.due("tokens of an empty book", pages.token(1, -1), 0);
        doc.due("type on the tape, empty then", pages.type('a', 1), 1);
        BorrowedPages full = new BorrowedPages();
        Check.typeAll(full, "+".repeat(240));
        full.book(0, CODE, 0);
        doc.due("type on the tape, full before", full.type(Check.packed("abcdefgh"), 8), 8);
        doc.due("a word cut off by book()", full.book(1, PROSE, 0), 1);
        full.type('i', 1);
        full.book(2, CODE, 0);
        full.type('f', 1);
        full.book(3, CODE, 0);
        doc.dueTokens(full, 2, 6);
        doc.dueTokens(full, 3, 6);
    }

    private void inPlace() {
        doc.sentence(3, "(in place of what it was)");
        BorrowedPages pages = Standing.shelf();
        doc.due("book in place of a longer one", pages.book(0, CODE, 9), 2);
        doc.dueTokens(pages, 0, 4, 6);
        doc.due("language", pages.token(0, -2), CODE);
        doc.due("day", pages.token(0, -3), 9);
        doc.due("books", pages.count(0), 4);
        doc.due("other books stay", pages.token(1, -1), 7);
        doc.due("empty in place of it", pages.book(0, PROSE, 0), 0);
        doc.due("token 0", pages.token(0, 0), BAD);
        doc.due("books", pages.count(0), 4);
        // In place of the GIVEN BOOK it is that BOOK, and so GIVEN.
        Check.write(pages, 3, PROSE, 0, "a b c");
        doc.dueAside(pages, 1, "1110000");
        doc.due("given", pages.given(-1), 3);
        pages.withdraw(1);
        doc.due("in place of nothing", pages.book(1, PROSE, 1), 0);
        doc.due("day in place of nothing", pages.token(1, -3), 1);
    }

    private void howMany() {
        doc.sentence(3, "how many TOKENS.");
        for (int many : new int[] {0, 1, 2, 39, 40}) {
            BorrowedPages pages = new BorrowedPages();
            doc.due("book of " + many, Check.write(pages, 0, PROSE, 0, "a ".repeat(many)), many);
            doc.due("tokens of it", pages.token(0, -1), many);
        }
    }

    private void badTapeStays() {
        doc.sentence(3, "BAD (THE TAPE stays).");
        BorrowedPages pages = new BorrowedPages();
        Check.typeAll(pages, "one two");
        doc.due("book 6", pages.book(6, PROSE, 0), BAD);
        doc.due("language 2", pages.book(0, 2, 0), BAD);
        doc.due("day 10000", pages.book(0, PROSE, 10000), BAD);
        doc.due("the tape stays", pages.type('a', 1), 8);
        doc.due("book", pages.book(0, PROSE, 0), 2);
        doc.dueTokens(pages, 0, Check.prose("one"), Check.prose("twoa"));
    }

    private void bad() {
        doc.sentence(3, "BAD -1 (a number is not as told, or names nothing)");
        doc.due("BAD", BorrowedPages.BAD, -1);
        BorrowedPages pages = new BorrowedPages();
        for (int book : Standing.NO_BOOKS) {
            doc.due("book " + book, pages.book(book, PROSE, 0), BAD);
        }
        for (int language : new int[] {LEAST, -1, 2, GREATEST}) {
            doc.due("language " + language, pages.book(0, language, 0), BAD);
        }
        for (int day : new int[] {LEAST, -1, 10000, GREATEST}) {
            doc.due("day " + day, pages.book(0, PROSE, day), BAD);
        }
        doc.due("books", pages.count(0), 0);
    }

    private void refusedChangesNothing() {
        doc.sentence(3, Sentences.UNCHANGED);
        Standing.dueUnchanged(doc, BAD, p -> p.book(-1, PROSE, 0), p -> p.book(6, PROSE, 0), p -> p.book(0, -1, 0),
                p -> p.book(0, 2, 0), p -> p.book(0, PROSE, -1), p -> p.book(0, PROSE, 10000), p -> p.book(4, PROSE, 10000));
    }

    private void booksZeroToFive() {
        doc.sentence(3, "BOOKS 0 .. 5");
        BorrowedPages pages = new BorrowedPages();
        for (int book = 0; book < 6; book++) {
            doc.due("book " + book, Check.write(pages, book, PROSE, book, "a ".repeat(book)), book);
        }
        for (int book = 0; book < 6; book++) {
            doc.due("tokens of book " + book, pages.token(book, -1), book);
            doc.due("day of book " + book, pages.token(book, -3), book);
        }
        doc.due("books", pages.count(0), 6);
    }

    private void fortyAtMost() {
        doc.sentence(3, "are TOKENS of a TEXT (40 at most; what is behind is left out)");
        BorrowedPages pages = new BorrowedPages();
        doc.due("39", Check.write(pages, 0, PROSE, 0, "b ".repeat(38) + "c"), 39);
        doc.due("token 38 of 39", pages.token(0, 38), 3);
        doc.due("40", Check.write(pages, 0, PROSE, 0, "b ".repeat(39) + "c"), 40);
        doc.due("token 39 of 40", pages.token(0, 39), 3);
        doc.due("41", Check.write(pages, 0, PROSE, 0, "b ".repeat(39) + "c d"), 40);
        doc.due("token 39 of 41", pages.token(0, 39), 3);
        doc.due("token 40 of 41", pages.token(0, 40), BAD);
        doc.due("240 signs", Check.write(pages, 0, CODE, 0, "-".repeat(40) + "+".repeat(200)), 40);
        doc.due("token 39 of 240", pages.token(0, 39), 145);
        doc.due("what was left out is on no tape", pages.book(1, CODE, 0), 0);
        doc.due("words that do not count are not of the forty",
                Check.write(pages, 0, PROSE, 0, "1 + ".repeat(30) + "a ".repeat(39) + "b"), 40);
        doc.due("token 39 behind what does not count", pages.token(0, 39), 2);
        // A WORD that ends the text and one that a byte ends are left out alike.
        doc.due("40 signs and a word", Check.write(pages, 0, CODE, 0, "+".repeat(40) + "end"), 40);
        doc.due("39 signs and a word", Check.write(pages, 0, CODE, 0, "+".repeat(39) + "end"), 40);
        doc.due("the word is the last one", pages.token(0, 39), 5);
        doc.due("39 signs and a number", Check.write(pages, 0, CODE, 0, "+".repeat(39) + "12x"), 40);
        doc.due("the number is the last one", pages.token(0, 39), 7);
    }

    private void language() {
        doc.sentence(3, "its LANGUAGE");
        BorrowedPages pages = new BorrowedPages();
        Check.write(pages, 0, PROSE, 0, "if");
        Check.write(pages, 1, CODE, 0, "if");
        doc.due("language 0", pages.token(0, -2), 0);
        doc.due("language 1", pages.token(1, -2), 1);
        doc.due("if in language 0", pages.token(0, 0), 9 * 37 + 6);
        doc.due("if in language 1", pages.token(1, 0), 1);
    }

    private void day() {
        doc.sentence(3, "a DAY (0 .. 9999)");
        BorrowedPages pages = new BorrowedPages();
        doc.due("day 0", pages.book(0, PROSE, 0), 0);
        doc.due("day 0", pages.token(0, -3), 0);
        doc.due("day 9999", pages.book(0, PROSE, 9999), 0);
        doc.due("day 9999", pages.token(0, -3), 9999);
        doc.due("day -1", pages.book(0, PROSE, -1), BAD);
        doc.due("day 10000", pages.book(0, PROSE, 10000), BAD);
        doc.due("day 9999 stays", pages.token(0, -3), 9999);
        doc.due("day -1 of a new book", pages.book(1, PROSE, -1), BAD);
        doc.due("no new book", pages.token(1, -3), NOT);
    }

    private void text() {
        doc.sentence(3, "A TEXT of bytes 32 .. 126 is read by a LANGUAGE into TOKENS (whole numbers), byte by byte");
        for (int one = 32; one <= 126; one++) {
            BorrowedPages pages = new BorrowedPages();
            doc.due("type byte " + one, pages.type(one, 1), 1);
            doc.due("book of byte " + one, pages.book(0, CODE, 0), one == 32 ? 0 : 1);
            boolean digit = one >= 48 && one <= 57;
            boolean letter = one >= 65 && one <= 90 || one >= 97 && one <= 122;
            long want = one == 32 ? BAD : digit ? 7 : letter ? 6 : 100 + one;
            doc.due("token of byte " + one, pages.token(0, 0), want);
        }
        dueText(CODE, "");
        dueText(PROSE, "");
    }

    private void parting() {
        doc.sentence(3, "bytes 32 only parting");
        dueText(PROSE, "  a  b   ", 1, 2);
        dueText(PROSE, " ".repeat(240));
        dueText(CODE, " ".repeat(240));
        dueText(CODE, " i f 1 2 + + ", 6, 6, 7, 7, 143, 143);
        dueText(CODE, "if 1", 1, 7);
        dueText(CODE, "e nd en d end", 6, 6, 6, 6, 5);
    }

    private void letters() {
        doc.sentence(3, "a WORD is letters (a .. z, A .. Z alike)");
        dueText(PROSE, "a A z Z", 1, 1, 26, 26);
        dueText(PROSE, "azAZ AZaz", Check.prose("azaz"), Check.prose("azaz"));
        dueText(CODE, "IF For fN LET eNd", 1, 2, 3, 4, 5);
        // The bytes about A .. Z and a .. z are no letters.
        dueText(PROSE, "a@b[c`d{e", 1, 2, 3, 4, 5);
        dueText(CODE, "A@B[C`D{E", 6, 164, 6, 191, 6, 196, 6, 223, 6);
    }

    private void digitsInWords() {
        doc.sentence(3, "and digits that stand together and begin with a letter");
        dueText(PROSE, "a0 z9 a1b2", 64, 26 * 37 + 36, Check.prose("a1b2"));
        dueText(CODE, "a0 z9 a1b2 if0 f0r", 6, 6, 6, 6, 6);
        // The bytes about 0 .. 9 are no digits.
        dueText(PROSE, "a/b:c", 1, 2, 3);
        dueText(CODE, "a/0:9/z", 6, 147, 7, 158, 7, 147, 6);
        dueText(CODE, "a_b-c.d", 6, 195, 6, 145, 6, 146, 6);
    }

    private void numbers() {
        doc.sentence(3, "a NUMBER digits that stand together else");
        dueText(CODE, "0", 7);
        dueText(CODE, "9876543210", 7);
        dueText(CODE, "1 2", 7, 7);
        dueText(CODE, "1+2", 7, 143, 7);
        dueText(CODE, "12if", 7, 1);
        dueText(CODE, "12if34", 7, 6);
        dueText(CODE, "7a7 7", 7, 6, 7);
        dueText(PROSE, "12ab", Check.prose("ab"));
        dueText(PROSE, "9z9", Check.prose("z9"));
        dueText(CODE, "9".repeat(240), 7);
    }

    private void signs() {
        doc.sentence(3, "every other byte is a SIGN");
        dueText(CODE, "++", 143, 143);
        dueText(CODE, "!\"#$%&'()*+,-./", 133, 134, 135, 136, 137, 138, 139, 140, 141, 142, 143, 144, 145, 146, 147);
        dueText(CODE, ":;<=>?@", 158, 159, 160, 161, 162, 163, 164);
        dueText(CODE, "[\\]^_`", 191, 192, 193, 194, 195, 196);
        dueText(CODE, "{|}~", 223, 224, 225, 226);
    }

    private void proseCountsWords() {
        doc.sentence(3, "0 PROSE: a WORD counts alone");
        dueText(PROSE, "if x = 12 end", Check.prose("if"), 24, Check.prose("end"));
        dueText(PROSE, "a" + "b".repeat(239), Check.prose("abbbbb"));
        dueText(PROSE, "a,b;c", 1, 2, 3);
    }

    private void proseSixLetters() {
        doc.sentence(3, "it is the number of its first 6 letters and digits");
        dueText(PROSE, "abcde abcdef abcdefg abcdefz abcdeg", Check.prose("abcde"), Check.prose("abcdef"), Check.prose("abcdef"),
                Check.prose("abcdef"), Check.prose("abcdeg"));
        dueText(PROSE, "abcde1 abcde12 abcd12345", Check.prose("abcde1"), Check.prose("abcde1"), Check.prose("abcd12"));
        // The seventh one begins no WORD of its own, nor does a digit begin a NUMBER there.
        dueText(PROSE, "abcdefghijklm", Check.prose("abcdef"));
    }

    private void proseValues() {
        doc.sentence(3, "(a 1 .. z 26, 0 27 .. 9 36");
        dueText(PROSE, "a b y z", 1, 2, 25, 26);
        dueText(PROSE, "a0 a1 a8 a9 aa az", 37 + 27, 37 + 28, 37 + 35, 37 + 36, 37 + 1, 37 + 26);
    }

    private void proseFewer() {
        doc.sentence(3, "of fewer ones as many)");
        dueText(PROSE, "a ab abc abcd abcde", 1, 39, 1446, 53506, 1979727);
    }

    private void proseFirstHighest() {
        doc.sentence(3, "the first one highest, by 37");
        dueText(PROSE, "ab ba az za", 37 + 2, 2 * 37 + 1, 37 + 26, 26 * 37 + 1);
        dueText(PROSE, "abcdef", ((((37L + 2) * 37 + 3) * 37 + 4) * 37 + 5) * 37 + 6);
    }

    private void proseNoNumbers() {
        doc.sentence(3, "NUMBERS and SIGNS do not count.");
        dueText(PROSE, "0 12 + - ~ ! 9");
        dueText(PROSE, "9".repeat(120) + "~".repeat(120));
        dueText(PROSE, "1a+b2 3", 1, 2 * 37 + 29);
    }

    private void codeKeywords() {
        doc.sentence(3, "1 CODE: WORDS if, for, fn, let, end are 1 .. 5");
        dueText(CODE, "if for fn let end", 1, 2, 3, 4, 5);
        dueText(CODE, "if(for)fn;let=end", 1, 140, 2, 141, 3, 159, 4, 161, 5);
        dueText(CODE, "1if2", 7, 6);
        dueText(CODE, "1if 2end", 7, 1, 7, 5);
    }

    private void codeOtherWords() {
        doc.sentence(3, "all others 6");
        dueText(CODE, "i f fo fr fnn lett le en ends endend iff", 6, 6, 6, 6, 6, 6, 6, 6, 6, 6, 6);
        dueText(CODE, "if1 for2 x x1 a zzzzzz zzzzzzz", 6, 6, 6, 6, 6, 6, 6);
        dueText(CODE, "w".repeat(240), 6);
    }

    private void codeNumbers() {
        doc.sentence(3, "a NUMBER is 7");
        dueText(CODE, "0 7 10 007 1234567890", 7, 7, 7, 7, 7);
    }

    private void codeSigns() {
        doc.sentence(3, "a SIGN 100 and its byte.");
        dueText(CODE, "!~", 133, 226);
        dueText(CODE, "a!1~", 6, 133, 7, 226);
    }
}
