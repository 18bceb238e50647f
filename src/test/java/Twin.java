import java.math.BigInteger;
import java.util.ArrayList;
import java.util.Arrays;
import java.util.List;
import java.util.NoSuchElementException;

/** The whole document written a second time, with the Java library and without thrift: what random runs go by. */
final class Twin {
    private final long chipSeed;
    private final List<List<Long>> files = emptyFiles();
    private final int[] values = new int[3];
    private final int[] digits = new int[3];
    private final List<long[]> signers = new ArrayList<>();
    private final List<long[]> changes = new ArrayList<>();
    private long t;
    private long k;
    private long q;
    private long j;
    private Long given;
    private Talk session;
    private int selected = -1;
    private int done;
    private long[] latest = {};
    private List<List<Long>> read;
    /** The messages of the latest inspection before they were changed. */
    final List<long[]> sent = new ArrayList<>();

    Twin(int number, int birth, int end) {
        chipSeed = Model.digest(Model.line(fit(number, 1000000000), fit(birth, 1000000), fit(end, 1000000)));
    }

    private static int fit(int value, int limit) {
        return (int) (Math.abs((long) value) % limit);
    }

    private static List<List<Long>> emptyFiles() {
        return List.of(new ArrayList<>(), new ArrayList<>(), new ArrayList<>(), new ArrayList<>());
    }

    private static long digestOf(List<Long> file) {
        return Model.digest(row(file));
    }

    private static long[] row(List<Long> words) {
        return words.stream().mapToLong(Long::longValue).toArray();
    }

    long load(int file, long word) {
        if (file < 0 || file > 3) {
            throw new IndexOutOfBoundsException();
        }
        if (files.get(file).size() == 20) {
            throw new IllegalStateException();
        }
        files.get(file).add(word);
        return files.get(file).size();
    }

    long sign(long signer) {
        long[] body = {digestOf(files.get(1)), digestOf(files.get(2)), signer};
        files.get(3).clear();
        Arrays.stream(body).forEach(files.get(3)::add);
        return Model.digest(body) >>> 1;
    }

    long print(int field, int value, int digit) {
        if (field < 0 || field > 2) {
            throw new IndexOutOfBoundsException();
        }
        if (value < 0 || value > (field == 0 ? 999999999 : 999999) || digit < 0 || digit > 9) {
            throw new IllegalArgumentException();
        }
        values[field] = value;
        digits[field] = digit;
        return isRight(field) ? 1 : 0;
    }

    private boolean isRight(int field) {
        return digits[field] == check(values[field], field == 0 ? 9 : 6);
    }

    long check(int value, int width) {
        if (width < 1 || width > 9 || value < 0) {
            return -1;
        }
        String all = String.format("%010d", value);
        return Model.checkDigit(all.substring(10 - width));
    }

    long trust(long signer, int modulus, int exponent) {
        if (modulus < 2 || exponent < 1 || exponent > 65537) {
            throw new IllegalArgumentException();
        }
        if (signers.size() == 4) {
            throw new IllegalStateException();
        }
        signers.add(new long[] {signer, modulus, exponent});
        return signers.size();
    }

    long draw(long newT, long newK, long newQ, long newJ) {
        boolean same = t == newT && k == newK;
        t = newT;
        k = newK;
        q = newQ;
        j = newJ;
        return same ? 0 : 1;
    }

    long change(int m, int i, long mask) {
        if (m < 0 || m > 99 || i < 0 || i > 9 || mask == 0) {
            throw new IllegalArgumentException();
        }
        if (changes.size() == 3) {
            throw new IllegalStateException();
        }
        changes.add(new long[] {m, i, mask});
        return changes.size();
    }

    private long[] carried(long... message) {
        long[] arrived = message.clone();
        for (long[] change : changes) {
            if (change[0] == sent.size() && change[1] < arrived.length) {
                arrived[(int) change[1]] ^= change[2];
            }
        }
        sent.add(message);
        return arrived;
    }

    long inspect() {
        drop();
        latest = new long[0];
        sent.clear();
        read = emptyFiles();
        int verdict = inspection();
        changes.clear();
        if (verdict != 0) {
            read = null;
        }
        return verdict;
    }

    private int inspection() {
        if (!isRight(0) || !isRight(1) || !isRight(2)) {
            return 1;
        }
        long seed = Model.digest(printed(0), printed(1), printed(2));
        carried();
        long deskQ = carried(challenge())[0];
        long[] proof = carried(Model.proof(seed, t, deskQ, k));
        long[] reply;
        try {
            reply = carried(reply(proof));
        } catch (IllegalArgumentException e) {
            carried();
            return 2;
        }
        if (!Arrays.equals(reply, Model.sealed(seed, reply))) {
            return 3;
        }
        long[] found = found(seed, reply);
        if (found[0] != deskQ || found[1] != t) {
            return 4;
        }
        int verdict = readAll(new Talk(k, found[2], deskQ, t));
        return verdict != 0 ? verdict : judge();
    }

    private long printed(int field) {
        return values[field] * 10L + digits[field];
    }

    private static long[] found(long seed, long[] message) {
        long a = Model.key(seed, 1);
        return new long[] {Model.d(a, message[0]), Model.d(a, message[1]) ^ message[0],
            Model.d(a, message[2]) ^ message[1]};
    }

    private int readAll(Talk desk) {
        for (int file : new int[] {3, 0, 1, 2}) {
            int verdict = ask(desk, 1, file, 0, file);
            int size = files.get(file).size();
            for (int p = 0; p < size && verdict == 0; p += 4) {
                int n = Math.min(4, size - p);
                verdict = ask(desk, 2, p + 32 * n, n, file);
            }
            if (verdict != 0) {
                return verdict;
            }
        }
        return 0;
    }

    private int ask(Talk desk, int header, int number, int n, int file) {
        long[] arrived = carried(desk.command(header, number));
        long[] answer;
        try {
            answer = obeyed(arrived[0], arrived[1], arrived[2]);
        } catch (RuntimeException e) {
            carried();
            return 5;
        }
        answer = carried(answer);
        desk.counter++;
        if (answer.length != n + 2
                || !Arrays.equals(answer, desk.sealedAnswer(Talk.STATUS, Arrays.copyOf(answer, n)))) {
            return 3;
        }
        for (int i = 0; i < n; i++) {
            read.get(file).add(Model.d(desk.e, answer[i]) ^ desk.counter);
        }
        return 0;
    }

    private int judge() {
        List<Long> signed = read.get(3);
        if (!read.get(0).equals(List.of(19L)) || signed.size() != 4) {
            return 6;
        }
        if (signed.get(0) != digestOf(read.get(1)) || signed.get(1) != digestOf(read.get(2))) {
            return 7;
        }
        for (long[] signer : signers) {
            if (signer[0] == signed.get(2)) {
                return isSignature(signer) ? holder() : 9;
            }
        }
        return 8;
    }

    private boolean isSignature(long[] signer) {
        long[] signed = row(read.get(3));
        if (signed[3] < 0 || signed[3] >= signer[1]) {
            return false;
        }
        BigInteger modulus = BigInteger.valueOf(signer[1]);
        BigInteger number = BigInteger.valueOf(Model.digest(signed[0], signed[1], signed[2]) >>> 1);
        return BigInteger.valueOf(signed[3]).modPow(BigInteger.valueOf(signer[2]), modulus)
                .equals(number.mod(modulus));
    }

    private int holder() {
        return read.get(1).equals(List.of(printed(0), printed(1), printed(2))) ? 0 : 10;
    }

    /** Both sides' session in the next inspection, if nobody changes anything, when message m is sent. */
    Talk talkAt(int m) {
        Talk talk = new Talk(k, j, q, t);
        talk.counter += m - 3;
        return talk;
    }

    long messages() {
        return sent.size();
    }

    long held(int file, int p) {
        if (read == null) {
            throw new IllegalStateException();
        }
        if (file < 0 || file > 3 || p < 0 || p >= read.get(file).size()) {
            throw new IndexOutOfBoundsException();
        }
        return read.get(file).get(p);
    }

    private void drop() {
        given = null;
        session = null;
        selected = -1;
    }

    long challenge() {
        drop();
        latest = new long[0];
        given = q;
        return q;
    }

    long prove(long a, long b, long c, long seal) {
        if (given == null) {
            throw new IllegalStateException();
        }
        return reply(new long[] {a, b, c, seal})[3];
    }

    /** Message 3. */
    private long[] reply(long[] message) {
        long challenge = given;
        long[] found = found(chipSeed, message);
        drop();
        if (!Arrays.equals(message, Model.sealed(chipSeed, message)) || found[1] != challenge) {
            throw new IllegalArgumentException();
        }
        session = new Talk(found[2], j, challenge, found[0]);
        return Model.proof(chipSeed, challenge, found[0], j);
    }

    long command(int header, long data, long seal) {
        latest = new long[0];
        latest = obeyed(header, data, seal);
        return latest.length;
    }

    private long[] obeyed(long header, long data, long seal) {
        Talk talk = session;
        int file = selected;
        drop();
        if (talk == null) {
            throw new IllegalStateException();
        }
        talk.counter++;
        if (seal != talk.sealedCommand(header, data)[2]) {
            throw new IllegalArgumentException();
        }
        if (header != 1 && header != 2) {
            throw new UnsupportedOperationException();
        }
        long number = Model.d(talk.e, data ^ talk.counter);
        if (header == 1 ? number < 0 || number > 3 : file < 0) {
            throw new NoSuchElementException();
        }
        long[] words = header == 1 ? new long[0] : wordsOf(file, number);
        session = talk;
        selected = header == 1 ? (int) number : file;
        done++;
        return talk.answer(words);
    }

    private long[] wordsOf(int file, long number) {
        long[] all = row(files.get(file));
        long p = number & 31;
        long n = Math.floorDiv(number, 32L);
        if (n < 1 || n > 4 || p + n > all.length) {
            throw new IndexOutOfBoundsException();
        }
        return Arrays.copyOfRange(all, (int) p, (int) (p + n));
    }

    long answer(int i) {
        return i >= 0 && i < latest.length ? latest[i] : 0;
    }

    long needed(int header, long data) {
        return Model.seal(talkNow().m, session.counter + 1, header, data);
    }

    long hidden(long number) {
        return Model.c(talkNow().e, number) ^ session.counter + 1;
    }

    private Talk talkNow() {
        if (session == null) {
            throw new IllegalStateException();
        }
        return session;
    }

    long chip(int what) {
        switch (what) {
            case 0: return session == null ? 0 : 1;
            case 1: return given == null ? 0 : 1;
            case 2: return selected;
            case 3: case 4: case 5: case 6: return files.get(what - 3).size();
            case 7: return done;
            default: return -2;
        }
    }
}
