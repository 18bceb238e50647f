import java.util.NoSuchElementException;

/** The boundary cases that the document's section 'Terms' names, in its order. */
public final class EdgesOfTermsTest {
    private static final long LOW = Long.MIN_VALUE;
    private static final long HIGH = Long.MAX_VALUE;
    private static final long EMPTY_DIGEST = 2611923443488327891L;
    private static final long[] HALVES = {0, 1, -1, HIGH, LOW, 0x7FFFFFFFL, 0x80000000L, 0xFFFFFFFFL, 1L << 32,
        -1L << 32, 0x7FFFFFFF00000000L, 0x80000000FFFFFFFFL};
    private static final int[] NOT_A_HEADER = {0, 3, -1, 4, 33, 256, Integer.MAX_VALUE, Integer.MIN_VALUE};

    public static void main(String[] args) {
        productsAndShiftsWrap();
        zerosMoveIn();
        countersWrap();
        countersWrapInInspections();
        digestsOfEmptyAndFullRows();
        rightDigitOfEachPlace();
        linesBeyondAnInt();
        filesOfTwentyWords();
        headersThatAreNone();
        filesThatThereAre();
        placesOfAFullFile();
        placesOfAnEmptyFile();
        numbersOfWords();
        bitsAboveANumber();
        noneSelected();
        firstErrorCounts();
        statusIsAlwaysTheSame();
        Expect.finish();
    }

    /** "all sums, products and shifts of them wrap": worked out by a program in a language whose numbers do not. */
    private static void productsAndShiftsWrap() {
        DocumentChip x = new DocumentChip(0, 0, 0);
        Expect.same("digest(0, 0)", x.digest(0, 0), -1657351637689589769L);
        Expect.same("digest(-1, -1)", x.digest(-1, -1), 8112284726870647386L);
        Expect.same("digest(highest, lowest)", x.digest(HIGH, LOW), -861887377309595246L);
        Expect.same("digest(lowest, highest)", x.digest(LOW, HIGH), 8499012857216280103L);
        Expect.same("digest of the start itself", x.digest(EMPTY_DIGEST, 0), 0);
        Expect.same("cipher(0, 0)", x.cipher(0, 0), 6591686571082956378L);
        Expect.same("cipher(lowest, highest)", x.cipher(LOW, HIGH), 7488749159645243925L);
        Expect.same("cipher(highest, lowest)", x.cipher(HIGH, LOW), -8087388003439858792L);
        Expect.same("cipher of an upper half", x.cipher(1, 1L << 32), 1165402912496739378L);
        Expect.same("cipher under an upper half", x.cipher(1L << 32, 1), 2894489488225706959L);
        Expect.same("cipher of -1", x.cipher(0x0123456789ABCDEFL, -1), 7266987537692334079L);
    }

    /** ">>> moves zeros in": the signed number is never below 0, whatever the sign of the digest. */
    private static void zerosMoveIn() {
        DocumentChip x = new DocumentChip(0, 0, 0);
        int below = 0;
        for (int name = 0; name < 64; name++) {
            long digest = Model.digest(EMPTY_DIGEST, EMPTY_DIGEST, name);
            long due = Long.divideUnsigned(digest, 2);
            Expect.same("sign(" + name + ")", x.sign(name), due);
            below += digest < 0 ? 1 : 0;
        }
        Expect.same("digests of both signs were there", below > 0 && below < 64, true);
    }

    /** "A COUNTER (a long)" grows by 1, from the largest long to the lowest and from -1 to 0 too. */
    private static void countersWrap() {
        for (long q : HALVES) {
            for (long t : HALVES) {
                Papers papers = new Papers();
                papers.put(2, 11, 22);
                papers.x.draw(0, 0, q, 5);
                papers.x.challenge();
                Guest.prove(papers, Model.proof(papers.seed, t, q, 3));
                talkOn("Q " + q + ", T " + t, papers.x, new Talk(3, 5, q, t));
            }
        }
        Expect.same("one counter wraps to the lowest long", new Talk(3, 5, 0x7FFFFFFFL, -1).counter, HIGH);
        Expect.same("and one to 0", new Talk(3, 5, -1, -1).counter, -1);
    }

    private static void talkOn(String what, DocumentChip x, Talk talk) {
        long[] select = talk.command(1, 2);
        Expect.same("hidden: " + what, x.hidden(2), select[1]);
        Expect.same("needed: " + what, x.needed(1, select[1]), select[2]);
        x.command(1, select[1], select[2]);
        Guest.answerIs("SELECT: " + what, x, talk.answer());
        long[] read = talk.command(2, 64);
        x.command(2, read[1], read[2]);
        Guest.answerIs("READ: " + what, x, talk.answer(11, 22));
    }

    private static void countersWrapInInspections() {
        for (long q : HALVES) {
            for (long t : HALVES) {
                Papers papers = Papers.genuine(1, 2, 3);
                papers.x.draw(t, 3, q, 5);
                Expect.same("inspect with Q " + q + ", T " + t, papers.x.inspect(), 0);
                Talk talk = new Talk(3, 5, q, t);
                talk.counter += 2 * 8;
                Expect.same("hidden after it", papers.x.hidden(9), talk.command(1, 9)[1]);
            }
        }
    }

    /** "DIGEST of a row of words": of no words, and of as many as a file may have. */
    private static void digestsOfEmptyAndFullRows() {
        Guest empty = Guest.welcome(new Papers());
        empty.papers.signWith(5, 1);
        Expect.same("the digest of no words", empty.papers.files[3][0], EMPTY_DIGEST);
        empty.select(3);
        empty.read(0, 4);
        for (int file = 1; file <= 2; file++) {
            Papers papers = new Papers();
            for (int size = 1; size <= 20; size++) {
                papers.put(file, Model.digest(size, file));
                Expect.same("sign with " + size + " words in file " + file, papers.x.sign(-size),
                        Model.digest(papers.body(-size)) >>> 1);
            }
        }
    }

    /** "right if it is the sum of the digits from the left on times 7, 3, 1, .., modulo 10" */
    private static void rightDigitOfEachPlace() {
        int[] weights = {7, 3, 1, 7, 3, 1, 7, 3, 1};
        for (int field = 0; field < 3; field++) {
            int width = field == 0 ? 9 : 6;
            for (int place = 0; place < width; place++) {
                DocumentChip x = new DocumentChip(0, 0, 0);
                for (int figure = 0; figure <= 9; figure++) {
                    int value = figure * (int) Math.pow(10, width - 1 - place);
                    int right = figure * weights[place] % 10;
                    Expect.same("check(" + value + ", " + width + ")", x.check(value, width), right);
                    Expect.same("its print", x.print(field, value, right), true);
                    Expect.same("its print with a digit more", x.print(field, value, (right + 1) % 10), false);
                    Expect.same("its print with a digit less", x.print(field, value, (right + 9) % 10), false);
                }
            }
        }
        Expect.same("nines add up to 297", new DocumentChip(0, 0, 0).check(999999999, 9), 7);
    }

    /** "number * 10 + its check digit" is a word, also where an int would have wrapped. */
    private static void linesBeyondAnInt() {
        int[] numbers = {0, 1, 214748363, 214748364, 214748365, 429496729, 429496730, 999999999};
        for (int number : numbers) {
            for (int other : new int[] {0, 1, 99999, 100000, 999999}) {
                Papers papers = new Papers(number, other, 999999 - other).filled(5);
                Expect.same("inspect of number " + number, papers.x.inspect(), 0);
                Expect.same("the holder's number", papers.x.held(1, 0), number * 10L + papers.x.check(number, 9));
                Guest.welcome(papers).select(1);
            }
        }
        Expect.same("the largest number", Model.line(999999999, 0, 0)[0], 9999999997L);
    }

    /** "FILES 0 .. 3 of at most 20 words each" */
    private static void filesOfTwentyWords() {
        for (int file = 0; file < 4; file++) {
            int f = file;
            Papers papers = new Papers();
            for (int size = 1; size <= 20; size++) {
                papers.put(file, size * 1000L + file);
            }
            Expect.raises("load of a word too many", IllegalStateException.class, () -> papers.x.load(f, 21));
            Guest guest = Guest.welcome(papers);
            guest.select(file);
            for (int p = 0; p < 20; p += 4) {
                guest.read(p, 4);
            }
            guest.refused("READ of a word too many", IndexOutOfBoundsException.class, 2, 20 + 32);
            for (int other = 0; other < 4; other++) {
                Expect.same("words of file " + other, papers.x.chip(3 + other), other == file ? 20 : 0);
            }
        }
    }

    /** "Any other header is none." */
    private static void headersThatAreNone() {
        for (int header : NOT_A_HEADER) {
            for (long number : new long[] {0, 2, 32, 4 * 32}) {
                Guest guest = Guest.welcome(Papers.genuine(1, 2, 3, 4));
                guest.select(2);
                guest.refused("header " + header, UnsupportedOperationException.class, header, number);
            }
        }
    }

    /** "a SELECT of a file that there isn't" */
    private static void filesThatThereAre() {
        Guest guest = Guest.welcome(new Papers());
        for (int file = 0; file <= 3; file++) {
            guest.select(file);
        }
        for (long number : new long[] {-1, 4, 5, 7, 32, 256, 1L << 32, (1L << 32) + 3, LOW, LOW + 1, HIGH, -4}) {
            Guest.welcome(new Papers()).refused("SELECT of file " + number, NoSuchElementException.class, 1, number);
        }
    }

    private static Papers twentyWords() {
        Papers papers = new Papers();
        for (int p = 0; p < 20; p++) {
            papers.put(2, Model.digest(p, 0));
        }
        return papers;
    }

    /** "n words (1 .. 4) of the selected file from place p on": the last ones that there are, and the first not. */
    private static void placesOfAFullFile() {
        for (int n = 1; n <= 4; n++) {
            Guest guest = Guest.welcome(twentyWords());
            guest.select(2);
            guest.read(0, n);
            guest.read(20 - n, n);
            guest.refused("READ one behind", IndexOutOfBoundsException.class, 2, 21 - n + 32L * n);
            for (int p = 20; p <= 31; p++) {
                Guest other = Guest.welcome(twentyWords());
                other.select(2);
                other.refused("READ at " + p, IndexOutOfBoundsException.class, 2, p + 32L * n);
            }
        }
    }

    private static void placesOfAnEmptyFile() {
        for (int n = 0; n <= 5; n++) {
            Guest guest = Guest.welcome(new Papers());
            guest.select(0);
            guest.refused("READ of " + n + " words of none", IndexOutOfBoundsException.class, 2, 32L * n);
        }
    }

    /** "or with n not 1 .. 4" */
    private static void numbersOfWords() {
        for (long n : new long[] {0, 5, 6, 8, 16, -1, -4, -31, HIGH / 32, LOW / 32}) {
            for (int p : new int[] {0, 1, 15, 16, 19}) {
                Guest guest = Guest.welcome(twentyWords());
                guest.select(2);
                guest.refused("READ of " + n, IndexOutOfBoundsException.class, 2, p + 32 * n);
            }
        }
    }

    /** "p its five lowest bits": all bits above belong to n. */
    private static void bitsAboveANumber() {
        for (int bit = 7; bit < 64; bit++) {
            Guest guest = Guest.welcome(twentyWords());
            guest.select(2);
            guest.refused("READ with bit " + bit, IndexOutOfBoundsException.class, 2, 32 | 1L << bit);
            Guest.welcome(twentyWords()).refused("SELECT with bit " + bit, NoSuchElementException.class, 1,
                    2 | 1L << bit);
        }
    }

    /** "or a READ with none selected (4)": a new session has none, even if the one before had. */
    private static void noneSelected() {
        Guest first = Guest.welcome(twentyWords());
        first.select(2);
        Guest.welcome(first.papers).refused("READ in a new session", NoSuchElementException.class, 2, 32);
        Guest.welcome(first.papers).select(0);
    }

    /** "in these cases, of which the first one that holds counts": of each pair of neighbours both hold. */
    private static void firstErrorCounts() {
        DocumentChip fresh = new Papers().x;
        for (int header : new int[] {1, 2, 3}) {
            Expect.raises("no session before all else", IllegalStateException.class, () -> fresh.command(header, 4, 5));
        }
        for (long[] command : new long[][] {{3, 0}, {1, 4}, {2, 32}, {2, 0}, {1, 0}}) {
            DocumentChip x = Guest.welcome(twentyWords()).x;
            int header = (int) command[0];
            long data = x.hidden(command[1]);
            long seal = x.needed(header, data) ^ LOW;
            Expect.raises("a wrong seal before the rest", IllegalArgumentException.class,
                    () -> x.command(header, data, seal));
        }
        Guest.welcome(twentyWords()).refused("a wrong header before a file", UnsupportedOperationException.class, 3, 4);
        Guest.welcome(twentyWords()).refused("none selected before words", NoSuchElementException.class, 2, 20 + 32);
        Guest.welcome(twentyWords()).refused("none selected before n", NoSuchElementException.class, 2, 5 * 32);
    }

    /** "then a STATUS, always 36864" */
    private static void statusIsAlwaysTheSame() {
        Guest guest = Guest.welcome(twentyWords());
        guest.select(2);
        Expect.same("status of a SELECT", guest.x.answer(0), 36864);
        for (int n = 1; n <= 4; n++) {
            guest.read(3, n);
            Expect.same("status of a READ of " + n, guest.x.answer(n), 36864);
            Expect.same("words behind the seal", guest.x.answer(n + 2), 0);
        }
    }
}
