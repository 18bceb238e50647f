import java.util.Random;

/** Promises 1 (a new object), 2 (digest), 3 (cipher) and 7 (check). */
public final class BasicsTest {
    private static final long[] WORDS = {0, 1, -1, 2, 19, 255, 256, 0xFFFFFFFFL, 1L << 32, 1L << 63, Long.MAX_VALUE};

    public static void main(String[] args) {
        newObject();
        fittingNumbers();
        digestAndCipher();
        checkDigits();
        Expect.finish();
    }

    private static void newObject() {
        DocumentChip x = new DocumentChip(1, 2, 3);
        int[] due = {0, 0, -1, 0, 0, 0, 0, 0};
        for (int what = 0; what < due.length; what++) {
            Expect.same("new chip(" + what + ")", x.chip(what), due[what]);
        }
        Expect.same("new messages()", x.messages(), 0);
        Expect.same("new answer(0)", x.answer(0), 0);
        Expect.same("new challenge()", x.challenge(), 0);
        Expect.raises("new held(0, 0)", IllegalStateException.class, () -> x.held(0, 0));
        Expect.same("nobody was trusted: trust", x.trust(1, 2, 1), 1);
        Expect.same("no changes: change", x.change(0, 0, 1), 1);
        Expect.same("draw of zeros", x.draw(0, 0, 1, 1), false);
        Expect.same("a print of zeros does not open another line", x.inspect(), 2);
        Expect.same("a print of zeros opens zeros", new DocumentChip(0, 0, 0).inspect(), 6);
    }

    private static void fittingNumbers() {
        line(999999999, 999999, 999999, 999999999, 999999, 999999);
        line(1000000000, 1000000, -1000000, 0, 0, 0);
        line(-1000000001, -1000001, 2000002, 1, 1, 2);
        line(Integer.MAX_VALUE, Integer.MAX_VALUE, Integer.MAX_VALUE, 147483647, 483647, 483647);
        line(Integer.MIN_VALUE, Integer.MIN_VALUE, Integer.MIN_VALUE, 147483648, 483648, 483648);
        line(-5, -6, -7, 5, 6, 7);
    }

    /** The chip of the first three numbers has the line of the last three. */
    private static void line(int number, int birth, int end, int fitNumber, int fitBirth, int fitEnd) {
        DocumentChip x = new DocumentChip(number, birth, end);
        long[] words = Model.line(fitNumber, fitBirth, fitEnd);
        for (int field = 0; field < 3; field++) {
            Expect.same("print of " + words[field],
                    x.print(field, (int) (words[field] / 10), (int) (words[field] % 10)), true);
        }
        Expect.same("inspect of line " + number + " " + birth + " " + end, x.inspect(), 6);
        long seed = Model.digest(words);
        x.draw(1, 2, 3, 4);
        x.challenge();
        long[] proof = Model.proof(seed, 1, 3, 2);
        Expect.same("prove with line " + number, x.prove(proof[0], proof[1], proof[2], proof[3]),
                Model.proof(seed, 3, 1, 4)[3]);
    }

    private static void digestAndCipher() {
        DocumentChip x = new DocumentChip(0, 0, 0);
        Expect.same("digest(1, 2)", x.digest(1, 2), 3213436578812209117L);
        Expect.same("cipher(3, 4)", x.cipher(3, 4), 9141262748913948669L);
        Expect.same("cipher(-1, -1)", x.cipher(-1, -1), 466448225119719840L);
        for (long a : WORDS) {
            for (long b : WORDS) {
                bothAre(a, b);
            }
        }
        Random random = new Random(1);
        for (int n = 0; n < 1000; n++) {
            bothAre(random.nextLong(), random.nextLong());
        }
    }

    private static void bothAre(long a, long b) {
        DocumentChip x = new DocumentChip(0, 0, 0);
        Expect.same("digest(" + a + ", " + b + ")", x.digest(a, b), Model.digest(a, b));
        Expect.same("cipher(" + a + ", " + b + ")", x.cipher(a, b), Model.c(a, b));
        Expect.same("D of C of " + b, Model.d(a, x.cipher(a, b)), b);
    }

    private static void checkDigits() {
        DocumentChip x = new DocumentChip(0, 0, 0);
        Expect.same("check(123456789, 9)", x.check(123456789, 9), 7);
        Expect.same("check(800101, 6)", x.check(800101, 6), 4);
        Expect.same("check(300101, 6)", x.check(300101, 6), 9);
        Expect.same("check(1, 1)", x.check(1, 1), 7);
        Expect.same("check(1, 2)", x.check(1, 2), 3);
        Expect.same("check(1, 3)", x.check(1, 3), 1);
        Expect.same("check(10, 1): the lowest digit alone", x.check(10, 1), 0);
        int[] values = {0, 1, 9, 10, 123, 98765, 999999, 1000000, 123456780, 999999999, 1000000000, 2147483647};
        for (int value : values) {
            for (int digits = 1; digits <= 9; digits++) {
                String all = String.format("%010d", value);
                Expect.same("check(" + value + ", " + digits + ")", x.check(value, digits),
                        Model.checkDigit(all.substring(10 - digits)));
            }
        }
        for (int digits : new int[] {0, -1, 10, Integer.MAX_VALUE, Integer.MIN_VALUE}) {
            Expect.same("check(1, " + digits + ")", x.check(1, digits), -1);
        }
        Expect.same("check(-1, 6)", x.check(-1, 6), -1);
        Expect.same("check(smallest, 9)", x.check(Integer.MIN_VALUE, 9), -1);
    }
}
