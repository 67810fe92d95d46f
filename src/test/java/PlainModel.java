import java.util.ArrayList;
import java.util.Collections;
import java.util.List;
import java.util.TreeSet;
import java.util.regex.Matcher;
import java.util.regex.Pattern;

/** The document's words, followed one by one with no thought of speed; wrong inputs are refused as the class must. */
final class PlainModel {
    private static final int BAD = -1, NOT = -2, FULL = -3, NONE = -4;
    private static final Pattern PIECES = Pattern.compile("[A-Za-z][A-Za-z0-9]*|[0-9]+|[^ ]");
    private static final List<String> KEYWORDS = List.of("if", "for", "fn", "let", "end");

    private record Book(List<Long> tokens, int language, int day) {
    }

    private record Run(int i, int j, int n) {
    }

    private final Book[] books = new Book[6];
    private String tape = "";
    private int given = -1;
    private int k = 3;
    private int w = 4;
    private int g = 2;
    private int t = 8;

    // ---- 1 texts

    int type(long word, int n) {
        if (n < 1 || n > 8) {
            return BAD;
        }
        StringBuilder bytes = new StringBuilder();
        for (int i = n - 1; i >= 0; i--) {
            int one = (int) (word >> 8 * i & 255);
            if (one < 32 || one > 126) {
                return BAD;
            }
            bytes.append((char) one);
        }
        if (tape.length() + n > 240) {
            return FULL;
        }
        tape += bytes;
        return tape.length();
    }

    int book(int book, int language, int day) {
        if (unnamed(book) || language != 0 && language != 1 || day < 0 || day > 9999) {
            return BAD;
        }
        List<Long> tokens = new ArrayList<>();
        Matcher pieces = PIECES.matcher(tape);
        while (pieces.find()) {
            String piece = pieces.group().toLowerCase();
            if (language == 1) {
                tokens.add(codeToken(piece));
            } else if (Character.isLetter(piece.charAt(0))) {
                tokens.add(Check.prose(piece));
            }
        }
        books[book] = new Book(tokens.subList(0, Math.min(40, tokens.size())), language, day);
        tape = "";
        return books[book].tokens.size();
    }

    private static long codeToken(String piece) {
        if (Character.isLetter(piece.charAt(0))) {
            return KEYWORDS.contains(piece) ? KEYWORDS.indexOf(piece) + 1 : 6;
        }
        return Character.isDigit(piece.charAt(0)) ? 7 : 100 + piece.charAt(0);
    }

    int withdraw(int book) {
        if (refusal(book) != 0) {
            return refusal(book);
        }
        int size = books[book].tokens.size();
        books[book] = null;
        given = given == book ? -1 : given;
        return size;
    }

    long token(int book, int i) {
        if (i < -3 || refusal(book) != 0) {
            return i < -3 ? BAD : refusal(book);
        }
        Book of = books[book];
        return switch (i) {
            case -3 -> of.day;
            case -2 -> of.language;
            case -1 -> of.tokens.size();
            default -> i < of.tokens.size() ? of.tokens.get(i) : BAD;
        };
    }

    int windows(int newK, int newW) {
        if (newK < 2 || newK > 5 || newW < 1 || newW > 8) {
            return BAD;
        }
        k = newK;
        w = newW;
        return 1;
    }

    int gap(int newG) {
        int before = g;
        if (newG < 0 || newG > 20) {
            return BAD;
        }
        g = newG;
        return before;
    }

    int link(int newT) {
        int before = t;
        if (newT < 1 || newT > 200) {
            return BAD;
        }
        t = newT;
        return before;
    }

    int given(int book) {
        int before = given;
        if (book != -1 && refusal(book) != 0) {
            return refusal(book) - 10;
        }
        given = book;
        return before;
    }

    // ---- 2 marks, runs, chains

    int hash(int book, int gram) {
        if (refusal(book) != 0) {
            return refusal(book);
        }
        List<Integer> hashes = hashes(books[book]);
        return gram >= 0 && gram < hashes.size() ? hashes.get(gram) : NONE;
    }

    int markAt(int book, int i) {
        if (i < -1 || refusal(book) != 0) {
            return i < -1 ? BAD : refusal(book);
        }
        List<Integer> marks = new ArrayList<>(marks(books[book]));
        if (i == -1) {
            return marks.size();
        }
        return i < marks.size() ? marks.get(i) : BAD;
    }

    int aside(int book, int i) {
        if (i < 0 || refusal(book) != 0) {
            return i < 0 ? BAD : refusal(book);
        }
        return i < books[book].tokens.size() ? (isAside(book, i) ? 1 : 0) : BAD;
    }

    int runs(int a, int b) {
        return refusal(a, b) != 0 ? refusal(a, b) : runsOf(a, b).size();
    }

    int run(int a, int b, int r, int what) {
        if (r < 0 || what < 0 || what > 2 || refusal(a, b) != 0) {
            return r < 0 || what < 0 || what > 2 ? BAD : refusal(a, b);
        }
        List<Run> runs = runsOf(a, b);
        if (r >= runs.size()) {
            return BAD;
        }
        Run run = runs.get(r);
        return List.of(run.i, run.j, run.n).get(what);
    }

    int score(int a, int b) {
        return refusal(a, b) != 0 ? refusal(a, b) : scoreOfChain(chainOf(runsOf(a, b)));
    }

    int chain(int a, int b, int r) {
        if (r < -1 || refusal(a, b) != 0) {
            return r < -1 ? BAD : refusal(a, b);
        }
        List<Run> runs = runsOf(a, b);
        List<Run> chain = chainOf(runs);
        if (r == -1) {
            return chain.size();
        }
        return r < chain.size() ? runs.indexOf(chain.get(r)) : BAD;
    }

    int covered(int a, int b) {
        if (refusal(a, b) != 0) {
            return refusal(a, b);
        }
        return chainOf(runsOf(a, b)).stream().mapToInt(Run::n).sum();
    }

    // ---- 3 groups, chance

    int group(int book) {
        return refusal(book) != 0 ? refusal(book) : Collections.min(groupOf(book));
    }

    int first(int book) {
        if (refusal(book) != 0) {
            return refusal(book);
        }
        TreeSet<Integer> group = groupOf(book);
        if (group.size() > 1) {
            group.remove(given);
        }
        int first = group.first();
        for (int one : group) {
            first = books[one].day < books[first].day ? one : first;
        }
        return first;
    }

    int count(int what) {
        int all = 0;
        int groups = 0;
        int lone = 0;
        int links = 0;
        for (int a = 0; a < 6; a++) {
            if (books[a] != null) {
                all++;
                groups += group(a) == a ? 1 : 0;
                lone += groupOf(a).size() == 1 ? 1 : 0;
                for (int b = a + 1; b < 6; b++) {
                    links += books[b] != null && score(a, b) >= t ? 1 : 0;
                }
            }
        }
        return what < 0 || what > 3 ? BAD : new int[] {all, groups, lone, links}[what];
    }

    int chance(int a, int b) {
        if (refusal(a, b) != 0) {
            return refusal(a, b);
        }
        Book straight = books[b];
        int unturned = score(a, b);
        int asGreat = 0;
        for (int turn = 0; turn < straight.tokens.size(); turn++) {
            List<Long> turned = new ArrayList<>(straight.tokens);
            Collections.rotate(turned, -turn);
            books[b] = new Book(turned, straight.language, straight.day);
            asGreat += score(a, b) >= unturned ? 1 : 0;
        }
        books[b] = straight;
        return asGreat;
    }

    // ---- what the terms mean

    private static boolean unnamed(int book) {
        return book < 0 || book > 5;
    }

    private int refusal(int book) {
        return unnamed(book) ? BAD : books[book] == null ? NOT : 0;
    }

    private int refusal(int a, int b) {
        return unnamed(a) || unnamed(b) || a == b ? BAD : books[a] == null || books[b] == null ? NOT : 0;
    }

    private List<Integer> hashes(Book book) {
        List<Integer> hashes = new ArrayList<>();
        for (int i = 0; i + k <= book.tokens.size(); i++) {
            hashes.add(Check.hash(book.tokens.subList(i, i + k).stream().mapToLong(Long::longValue).toArray()));
        }
        return hashes;
    }

    private TreeSet<Integer> marks(Book book) {
        List<Integer> hashes = hashes(book);
        TreeSet<Integer> marks = new TreeSet<>();
        int window = Math.min(w, hashes.size());
        for (int i = 0; window > 0 && i + window <= hashes.size(); i++) {
            List<Integer> some = hashes.subList(i, i + window);
            marks.add(i + some.lastIndexOf(Collections.min(some)));
        }
        return marks;
    }

    private boolean isAside(int book, int i) {
        if (given == -1 || given == book || books[given].language != books[book].language) {
            return false;
        }
        int length = w + k - 1;
        List<Long> tokens = books[book].tokens;
        for (int start = Math.max(0, i - length + 1); start <= i && start + length <= tokens.size(); start++) {
            if (Collections.indexOfSubList(books[given].tokens, tokens.subList(start, start + length)) >= 0) {
                return true;
            }
        }
        return false;
    }

    private List<Run> runsOf(int a, int b) {
        List<Run> runs = new ArrayList<>();
        if (books[a].language != books[b].language) {
            return runs;
        }
        boolean[][] same = new boolean[42][42];
        for (int i = 0; i < books[a].tokens.size(); i++) {
            for (int j = 0; j < books[b].tokens.size(); j++) {
                same[i + 1][j + 1] = books[a].tokens.get(i).equals(books[b].tokens.get(j));
            }
        }
        setAside(same, a, b);
        TreeSet<Integer> marksOfA = marks(books[a]);
        TreeSet<Integer> marksOfB = marks(books[b]);
        for (int i = 0; i < 40; i++) {
            for (int j = 0; j < 40; j++) {
                for (int n = 1; i + n <= 40 && j + n <= 40 && same[i + n][j + n]; n++) {
                    if (!same[i][j] && !same[i + n + 1][j + n + 1] && sharesMark(new Run(i, j, n), marksOfA, marksOfB)) {
                        runs.add(new Run(i, j, n));
                    }
                }
            }
        }
        return runs;
    }

    private void setAside(boolean[][] same, int a, int b) {
        for (int i = 0; i < 40; i++) {
            boolean asideInA = i < books[a].tokens.size() && isAside(a, i);
            boolean asideInB = i < books[b].tokens.size() && isAside(b, i);
            for (int j = 0; j < 40; j++) {
                same[i + 1][j + 1] &= !asideInA;
                same[j + 1][i + 1] &= !asideInB;
            }
        }
    }

    private boolean sharesMark(Run run, TreeSet<Integer> marksOfA, TreeSet<Integer> marksOfB) {
        for (int d = 0; d + k <= run.n; d++) {
            if (marksOfA.contains(run.i + d) && marksOfB.contains(run.j + d)) {
                return true;
            }
        }
        return false;
    }

    private int scoreOfChain(List<Run> chain) {
        return chain.isEmpty() ? 0 : chain.stream().mapToInt(Run::n).sum() - g * (chain.size() - 1);
    }

    /** The best of the chains that begin with each run, from the last run on. */
    private List<Run> chainOf(List<Run> runs) {
        List<List<Run>> from = new ArrayList<>(Collections.nCopies(runs.size(), List.of()));
        List<Run> best = List.of();
        for (int r = runs.size() - 1; r >= 0; r--) {
            Run head = runs.get(r);
            List<Run> bestFromHead = List.of(head);
            for (int s = r + 1; s < runs.size(); s++) {
                Run next = runs.get(s);
                if (next.i >= head.i + head.n && next.j >= head.j + head.n) {
                    List<Run> longer = new ArrayList<>(List.of(head));
                    longer.addAll(from.get(s));
                    bestFromHead = better(longer, bestFromHead, runs);
                }
            }
            from.set(r, bestFromHead);
            best = better(bestFromHead, best, runs);
        }
        return best;
    }

    private List<Run> better(List<Run> one, List<Run> other, List<Run> runs) {
        if (scoreOfChain(one) != scoreOfChain(other)) {
            return scoreOfChain(one) > scoreOfChain(other) ? one : other;
        }
        for (int r = 0; r < one.size() && r < other.size(); r++) {
            int first = runs.indexOf(one.get(r));
            int second = runs.indexOf(other.get(r));
            if (first != second) {
                return first < second ? one : other;
            }
        }
        return one.size() > other.size() ? one : other;
    }

    private TreeSet<Integer> groupOf(int book) {
        TreeSet<Integer> group = new TreeSet<>(List.of(book));
        for (int step = 0; step < 6; step++) {
            for (int a : List.copyOf(group)) {
                for (int b = 0; b < 6; b++) {
                    if (a != b && books[b] != null && score(a, b) >= t) {
                        group.add(b);
                    }
                }
            }
        }
        return group;
    }
}
