/** The document's arithmetic written a second time, over rows of any length, for what the tests foretell. */
final class Model {
    private Model() {
    }

    static long digest(long... row) {
        long h = 2611923443488327891L;
        for (long w : row) {
            h = (h ^ w) * -7046029254386353131L;
            h = h ^ (h >>> 29);
        }
        return h;
    }

    static long key(long s, long n) {
        return digest(s, n);
    }

    static long c(long k, long b) {
        int[] halves = {(int) (b >> 32), (int) b};
        for (int i = 0; i < 8; i++) {
            halves = new int[] {halves[1], halves[0] ^ f(k, i, halves[1])};
        }
        return word(halves);
    }

    static long d(long k, long c) {
        int[] halves = {(int) (c >> 32), (int) c};
        for (int i = 7; i >= 0; i--) {
            halves = new int[] {halves[1] ^ f(k, i, halves[0]), halves[0]};
        }
        return word(halves);
    }

    private static int f(long k, int i, int r) {
        int t = r + (int) Long.rotateRight(k, 8 * i);
        return (((t << 4) ^ (t >>> 5)) + t) ^ (i * -1640531527);
    }

    private static long word(int[] halves) {
        return ((long) halves[0] << 32) + Integer.toUnsignedLong(halves[1]);
    }

    static long[] enciphered(long k, long... row) {
        long[] sent = new long[row.length];
        for (int i = 0; i < row.length; i++) {
            sent[i] = c(k, row[i] ^ (i == 0 ? 0 : sent[i - 1]));
        }
        return sent;
    }

    static long seal(long k, long... row) {
        return row.length == 0 ? 0 : enciphered(k, row)[row.length - 1];
    }

    static int checkDigit(String digits) {
        int sum = 0;
        for (int i = 0; i < digits.length(); i++) {
            sum += (digits.charAt(i) - '0') * Character.digit("731".charAt(i % 3), 10);
        }
        return sum % 10;
    }

    /** The three words of a line with right digits: the holder file, and the row of the seed. */
    static long[] line(int number, int birth, int end) {
        return new long[] {withDigit("%09d", number), withDigit("%06d", birth), withDigit("%06d", end)};
    }

    private static long withDigit(String form, int value) {
        String digits = String.format(form, value);
        return Long.parseLong(digits + checkDigit(digits));
    }

    /** Messages 2 and 3: three words enciphered as a row and their seal. */
    static long[] proof(long seed, long first, long second, long third) {
        return sealed(seed, enciphered(key(seed, 1), first, second, third));
    }

    /** Three words as they are sent, and the seal that belongs to them. */
    static long[] sealed(long seed, long... sent) {
        return new long[] {sent[0], sent[1], sent[2], seal(key(seed, 2), sent[0], sent[1], sent[2])};
    }
}
