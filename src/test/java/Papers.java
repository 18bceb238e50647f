import java.math.BigInteger;
import java.util.ArrayList;
import java.util.Arrays;
import java.util.List;

/** A document whose files, print and signer the tests choose, and the messages of its inspection foretold. */
final class Papers {
    static final int NUMBER = 123456789;
    static final int BIRTH = 800101;
    static final int END = 300101;
    static final long[] LINE = Model.line(NUMBER, BIRTH, END);
    static final long SEED = Model.digest(LINE);
    static final long NAME = 77;
    static final int MODULUS = 46337 * 46327;
    static final int EXPONENT = 65537;
    static final long T = 0x1122334455667788L;
    static final long K = -2002;
    static final long Q = 0x7FEDCBA987654321L;
    static final long J = 4004;

    final DocumentChip x;
    final long[] line;
    final long seed;
    final long[][] files = new long[4][0];

    Papers() {
        this(NUMBER, BIRTH, END);
    }

    /** Print, signer and drawn words are there; the chip is empty. */
    Papers(int number, int birth, int end) {
        x = new DocumentChip(number, birth, end);
        line = Model.line(number, birth, end);
        seed = Model.digest(line);
        printRight();
        x.trust(NAME, MODULUS, EXPONENT);
        x.draw(T, K, Q, J);
    }

    /** A document that is genuine. */
    static Papers genuine(long... picture) {
        return new Papers().filled(picture);
    }

    /** Puts into empty files what makes the document genuine. */
    Papers filled(long... picture) {
        put(0, 19);
        put(1, line);
        put(2, picture);
        sign(NAME);
        return this;
    }

    void printRight() {
        for (int field = 0; field < 3; field++) {
            x.print(field, (int) (line[field] / 10), (int) (line[field] % 10));
        }
    }

    /** Words behind a file. */
    void put(int file, long... words) {
        for (long word : words) {
            x.load(file, word);
            long[] longer = Arrays.copyOf(files[file], files[file].length + 1);
            longer[longer.length - 1] = word;
            files[file] = longer;
        }
    }

    /** The signed file with the signature that is right. */
    void sign(long name) {
        signWith(name, root(body(name)));
    }

    void signWith(long name, long signature) {
        x.sign(name);
        files[3] = body(name);
        put(3, signature);
    }

    long[] body(long name) {
        return new long[] {Model.digest(files[1]), Model.digest(files[2]), name};
    }

    /** The signature of a signed file's first three words. */
    static long root(long[] body) {
        BigInteger phi = BigInteger.valueOf(46336L * 46326L);
        BigInteger d = BigInteger.valueOf(EXPONENT).modInverse(phi);
        return BigInteger.valueOf(Model.digest(body) >>> 1).modPow(d, BigInteger.valueOf(MODULUS)).longValue();
    }

    static Talk talk() {
        return new Talk(K, J, Q, T);
    }

    /** All messages of an inspection in which nobody changes anything. */
    List<long[]> messages() {
        List<long[]> all = new ArrayList<>();
        all.add(new long[0]);
        all.add(new long[] {Q});
        all.add(Model.proof(seed, T, Q, K));
        all.add(Model.proof(seed, Q, T, J));
        Talk talk = talk();
        for (int file : new int[] {3, 0, 1, 2}) {
            all.add(talk.command(1, file));
            all.add(talk.answer());
            for (int p = 0; p < files[file].length; p += 4) {
                long[] words = Arrays.copyOfRange(files[file], p, Math.min(p + 4, files[file].length));
                all.add(talk.command(2, p + 32 * words.length));
                all.add(talk.answer(words));
            }
        }
        return all;
    }

    /** The session as it is when message m (4 or later) is sent. */
    static Talk talkAt(int m) {
        Talk talk = talk();
        talk.counter += m - 3;
        return talk;
    }

    /** Tells a change by which a word of a message becomes another one. */
    void replace(int m, int i, long word) {
        x.change(m, i, messages().get(m)[i] ^ word);
    }

    /** Tells the changes by which a message becomes another one of the same length. */
    void replace(int m, long[] message) {
        for (int i = 0; i < message.length; i++) {
            if (messages().get(m)[i] != message[i]) {
                replace(m, i, message[i]);
            }
        }
    }
}
