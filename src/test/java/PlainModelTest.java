import java.util.Random;

/** Long runs of calls, the same each time, on the class and on the plain model of the document. */
public final class PlainModelTest {
    private static final int RUNS = 250;
    /** What an object answers after so many calls is free, so no run asks for more. */
    private static final int CALLS = 512;
    private static final int LONGEST_TEXT = 244;
    private static final int MOST_CALLS_OF_A_BOOK = (LONGEST_TEXT + 7) / 8 + 1;
    private static final String[] PROSE_WORDS = {"a", "b", "c", "the", "The", "page", "pages9", "pages97", "x1", "77", ",", ""};
    private static final String[] CODE_WORDS = {"if", "For", "fn", "let", "end", "x", "y1", "3", "44", "=", "(", "if4", "4if", "~"};

    private final Random random;
    private final BorrowedPages pages = new BorrowedPages();
    private final PlainModel model = new PlainModel();
    private final Check check;
    private final String[] shelf = new String[6];
    private final int seed;
    private int calls = 0;

    private PlainModelTest(int seed, Check check) {
        this.random = new Random(seed);
        this.seed = seed;
        this.check = check;
    }

    public static void main(String[] args) {
        Check check = new Check();
        for (int seed = 0; seed < RUNS; seed++) {
            new PlainModelTest(seed, check).play();
        }
        check.end();
    }

    private void play() {
        for (int book = 0; book < 4; book++) {
            writeBook(book);
        }
        while (calls < CALLS) {
            step();
        }
        check.due("calls of the object of seed " + seed, calls, CALLS);
    }

    private void due(String call, long got, long want) {
        calls++;
        check.due("seed " + seed + ", call " + calls + ": " + call, got, want);
    }

    private void step() {
        int kind = random.nextInt(40);
        if (kind < 3 && calls + MOST_CALLS_OF_A_BOOK <= CALLS) {
            writeBook(random.nextInt(6));
        } else if (kind < 10) {
            change();
        } else if (kind < 20) {
            askBook();
        } else if (kind < 35) {
            askPair();
        } else {
            askGroups();
        }
    }

    private void writeBook(int book) {
        int language = random.nextInt(5) == 0 ? 1 : 0;
        String text = random.nextInt(3) == 0 ? newText(language) : borrowedText(language);
        shelf[book] = text;
        for (int at = 0; at < text.length(); at += 8) {
            String part = text.substring(at, Math.min(text.length(), at + 8));
            type(Check.packed(part), part.length());
        }
        book(random.nextInt(20) == 0 ? odd(6) : book, random.nextInt(20) == 0 ? odd(2) : language, random.nextInt(5));
    }

    private String newText(int language) {
        String[] words = language == 1 ? CODE_WORDS : PROSE_WORDS;
        int kinds = 1 + random.nextInt(words.length);
        StringBuilder text = new StringBuilder();
        int many = random.nextInt(60);
        for (int i = 0; i < many; i++) {
            text.append(words[random.nextInt(kinds)]).append(random.nextInt(9) == 0 ? "" : " ");
        }
        return cut(text.toString());
    }

    /** Pieces of other books in any order, with something new between them. */
    private String borrowedText(int language) {
        StringBuilder text = new StringBuilder();
        int pieces = 1 + random.nextInt(4);
        for (int i = 0; i < pieces; i++) {
            String from = shelf[random.nextInt(6)];
            if (from == null || from.isEmpty()) {
                from = newText(language);
            }
            int start = random.nextInt(from.length() + 1);
            text.append(from, start, Math.min(from.length(), start + random.nextInt(100)));
            text.append(random.nextBoolean() ? " b " : "");
        }
        return cut(text.toString());
    }

    private static String cut(String text) {
        return text.substring(0, Math.min(text.length(), LONGEST_TEXT));
    }

    /** A number of 0 .. bound - 1, or one about its ends, or far away. */
    private int odd(int bound) {
        return switch (random.nextInt(12)) {
            case 0 -> -1;
            case 1 -> -2 - random.nextInt(4);
            case 2 -> bound;
            case 3 -> bound + random.nextInt(3);
            case 4 -> random.nextInt();
            default -> random.nextInt(bound);
        };
    }

    private void type(long w, int n) {
        due("type(" + w + ", " + n + ")", pages.type(w, n), model.type(w, n));
    }

    private void book(int book, int language, int day) {
        due("book(" + book + ", " + language + ", " + day + ")", pages.book(book, language, day), model.book(book, language, day));
    }

    private void change() {
        int x = odd(6);
        switch (random.nextInt(7)) {
            case 0 -> type(random.nextLong(), odd(9));
            case 1 -> book(x, random.nextInt(2), odd(10000));
            case 2 -> {
                int book = random.nextInt(3) == 0 ? x : 5;
                due("withdraw(" + book + ")", pages.withdraw(book), model.withdraw(book));
            }
            case 3 -> {
                int k = random.nextInt(8) == 0 ? odd(7) : 2 + random.nextInt(4);
                int w = random.nextInt(8) == 0 ? odd(10) : 1 + random.nextInt(8);
                due("windows(" + k + ", " + w + ")", pages.windows(k, w), model.windows(k, w));
            }
            case 4 -> {
                int g = random.nextInt(3) == 0 ? odd(22) : random.nextInt(7);
                due("gap(" + g + ")", pages.gap(g), model.gap(g));
            }
            case 5 -> {
                int t = random.nextInt(3) == 0 ? odd(202) : random.nextInt(25);
                due("link(" + t + ")", pages.link(t), model.link(t));
            }
            default -> due("given(" + x + ")", pages.given(x), model.given(x));
        }
    }

    private void askBook() {
        int book = odd(6);
        int i = odd(40);
        String of = "(" + book + ", " + i + ")";
        switch (random.nextInt(4)) {
            case 0 -> due("token" + of, pages.token(book, i), model.token(book, i));
            case 1 -> due("hash" + of, pages.hash(book, i), model.hash(book, i));
            case 2 -> due("markAt" + of, pages.markAt(book, i), model.markAt(book, i));
            default -> due("aside" + of, pages.aside(book, i), model.aside(book, i));
        }
    }

    private void askPair() {
        int a = random.nextInt(10) == 0 ? odd(6) : random.nextInt(6);
        int b = random.nextInt(10) == 0 ? odd(6) : random.nextInt(6);
        String of = "(" + a + ", " + b + ")";
        int r = odd(9);
        switch (random.nextInt(8)) {
            case 0 -> due("runs" + of, pages.runs(a, b), model.runs(a, b));
            case 1, 2 -> {
                int what = random.nextInt(8) == 0 ? odd(3) : random.nextInt(3);
                due("run" + of + " " + r + " " + what, pages.run(a, b, r, what), model.run(a, b, r, what));
            }
            case 3 -> due("score" + of, pages.score(a, b), model.score(a, b));
            case 4, 5 -> due("chain" + of + " " + r, pages.chain(a, b, r), model.chain(a, b, r));
            case 6 -> due("covered" + of, pages.covered(a, b), model.covered(a, b));
            default -> due("chance" + of, pages.chance(a, b), model.chance(a, b));
        }
    }

    private void askGroups() {
        int x = odd(6);
        switch (random.nextInt(3)) {
            case 0 -> due("group(" + x + ")", pages.group(x), model.group(x));
            case 1 -> due("first(" + x + ")", pages.first(x), model.first(x));
            default -> {
                int what = odd(4);
                due("count(" + what + ")", pages.count(what), model.count(what));
            }
        }
    }
}
