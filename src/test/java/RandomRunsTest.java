import java.util.Arrays;
import java.util.Random;
import java.util.function.LongSupplier;

/**
 * All promises: runs of any calls with any arguments, each of which answers or throws what the twin does. So none
 * throws what its promise does not name, and one that throws changes nothing that it should not.
 */
public final class RandomRunsTest {
    private static final int[] INTS = {0, 1, 2, 3, 4, 5, 6, 7, 8, 9, 10, 19, 20, 99, 100, -1, 65537, 65538, 254, 999999,
        1000000, 999999999, 1000000000, Integer.MAX_VALUE, Integer.MIN_VALUE};
    private static final long[] LONGS = {0, 1, 2, 3, 4, 19, 31, 32, 64, 68, 96, 128, 160, -1, 1L << 32, Long.MAX_VALUE,
        Long.MIN_VALUE};
    private static final int RUNS = 3000;
    /** Few enough for the object, even if the last ones come several at a time. */
    private static final int CALLS = 300;
    private static final int KINDS = 28;
    /** The answers of inspections that were met: a run that reaches few of them is worth little. */
    private static final int[] MET = new int[11];

    private final String name;
    private final Random random;
    private final DocumentChip x;
    private final Twin twin;
    private final int spoils;
    private int calls;

    private RandomRunsTest(int seed) {
        name = "run " + seed + ": ";
        random = new Random(seed);
        spoils = seed % 4 == 0 ? 1 : 20;
        int number = seed % 4 == 0 ? random.nextInt() : Papers.NUMBER;
        int birth = seed % 4 == 0 ? random.nextInt() : Papers.BIRTH;
        int end = seed % 8 == 0 ? random.nextInt() : Papers.END;
        x = new DocumentChip(number, birth, end);
        twin = new Twin(number, birth, end);
    }

    public static void main(String[] args) {
        for (int seed = 0; seed < RUNS; seed++) {
            RandomRunsTest run = new RandomRunsTest(seed);
            if (run.spoils > 1) {
                run.begin();
            }
            while (run.calls < CALLS) {
                run.call();
            }
        }
        for (int answer = 0; answer < MET.length; answer++) {
            Expect.same("answer " + answer + " was met", MET[answer] > 20, true);
        }
        Expect.finish();
    }

    /** A document that is genuine, or nearly so. */
    private void begin() {
        Papers papers = new Papers();
        papers.put(0, seldom(30) ? anyLong() : 19);
        papers.put(1, Papers.LINE);
        if (seldom(8)) {
            papers.files[1][random.nextInt(3)] ^= 1 + random.nextInt(16);
        }
        papers.put(2, Arrays.copyOf(LONGS, random.nextInt(9)));
        papers.sign(Papers.NAME);
        for (int file = 0; file < 3; file++) {
            for (long word : papers.files[file]) {
                load(file, word);
            }
        }
        sign(Papers.NAME);
        load(3, seldom(10) ? anyLong() : papers.files[3][3]);
        if (!seldom(10)) {
            trust(Papers.NAME, Papers.MODULUS, Papers.EXPONENT);
        }
        printRight();
    }

    private boolean seldom(int times) {
        return random.nextInt(times) == 0;
    }

    private void load(int file, long word) {
        both("load(" + file + ", " + word + ")", () -> x.load(file, word), () -> twin.load(file, word));
    }

    private void print(int field, int value, int digit) {
        both("print(" + field + ", " + value + ", " + digit + ")", () -> x.print(field, value, digit) ? 1 : 0,
                () -> twin.print(field, value, digit));
    }

    private void printRight() {
        for (int field = 0; field < 3; field++) {
            print(field, (int) (Papers.LINE[field] / 10), (int) (Papers.LINE[field] % 10));
        }
    }

    private void call() {
        int a = anyInt();
        int b = anyInt();
        int c = anyInt();
        long v = anyLong();
        long w = anyLong();
        switch (random.nextInt(KINDS)) {
            case 0: case 1: spoil(a, v); break;
            case 2: print(a, b, c); break;
            case 3: both("check", () -> x.check(b, a), () -> twin.check(b, a)); break;
            case 4: trust(v, a, b); break;
            case 5: draw(v, w, anyLong(), anyLong()); break;
            case 6: case 7: change(seldom(3) ? a : random.nextInt(24), b, v); break;
            case 8: case 9: printRight(); inspect(); break;
            case 10: inspect(); break;
            case 11: both("messages", x::messages, twin::messages); break;
            case 12: both("held(" + a + ", " + b + ")", () -> x.held(a, b), () -> twin.held(a, b)); break;
            case 13: both("challenge", x::challenge, twin::challenge); break;
            case 14: case 15: prove(v, w); break;
            case 16: case 17: case 18: case 19: command(v, w); break;
            case 20: case 21: both("answer(" + a + ")", () -> x.answer(a), () -> twin.answer(a)); break;
            case 22: both("needed", () -> x.needed(a, v), () -> twin.needed(a, v)); break;
            case 23: both("hidden", () -> x.hidden(v), () -> twin.hidden(v)); break;
            case 24: case 25: forge(); inspect(); break;
            default: both("chip(" + a + ")", () -> x.chip(a), () -> twin.chip(a)); break;
        }
    }

    private void sign(long signer) {
        both("sign(" + signer + ")", () -> x.sign(signer), () -> twin.sign(signer));
    }

    private void trust(long signer, int modulus, int exponent) {
        both("trust(" + signer + ", " + modulus + ", " + exponent + ")", () -> x.trust(signer, modulus, exponent),
                () -> twin.trust(signer, modulus, exponent));
    }

    /** What spoils a document for good comes seldom. */
    private void spoil(int file, long word) {
        if (!seldom(spoils)) {
            load(file < 4 ? 4 : file, word);
        } else if (random.nextBoolean()) {
            load(file, word);
        } else {
            sign(word);
        }
    }

    private void draw(long t, long k, long q, long j) {
        both("draw", () -> x.draw(t, k, q, j) ? 1 : 0, () -> twin.draw(t, k, q, j));
    }

    private void change(int m, int i, long mask) {
        both("change(" + m + ", " + i + ", " + mask + ")", () -> x.change(m, i, mask), () -> twin.change(m, i, mask));
    }

    /** Changes by one who knows the keys: a message of the latest inspection becomes another under a right seal. */
    private void forge() {
        int m = 2 + random.nextInt(20);
        if (m >= twin.sent.size() || twin.sent.get(m).length == 0) {
            return;
        }
        long[] old = twin.sent.get(m);
        long[] forged = m < 4 ? forgedProof(old) : m % 2 == 0 ? forgedCommand(m) : forgedAnswer(m, old);
        for (int i = 0; i < old.length; i++) {
            if (old[i] != forged[i]) {
                change(m, i, old[i] ^ forged[i]);
            }
        }
    }

    private long[] forgedProof(long[] old) {
        long[] words = old.clone();
        words[random.nextInt(3)] ^= anyLong();
        return Model.sealed(Papers.SEED, words);
    }

    private long[] forgedCommand(int m) {
        Talk talk = twin.talkAt(m);
        int header = 1 + random.nextInt(2);
        long number = header == 1 ? random.nextInt(5) : 32 * (1 + random.nextInt(4)) + random.nextInt(5);
        return talk.sealedCommand(header, Model.c(talk.e, number) ^ talk.counter);
    }

    private long[] forgedAnswer(int m, long[] old) {
        Talk talk = twin.talkAt(m);
        long[] words = Arrays.copyOf(old, old.length - 2);
        if (words.length == 0) {
            return talk.sealedAnswer(anyLong());
        }
        words[random.nextInt(words.length)] = Model.c(talk.e, anyLong() ^ talk.counter);
        return talk.sealedAnswer(Talk.STATUS, words);
    }

    private void inspect() {
        long answer = both("inspect", x::inspect, twin::inspect);
        if (answer >= 0 && answer < MET.length) {
            MET[(int) answer]++;
        }
    }

    /** Mostly a right proof to a challenge that was just given out. */
    private void prove(long t, long k) {
        long q = seldom(4) ? anyLong() : both("challenge", x::challenge, twin::challenge);
        long[] p = Model.proof(Papers.SEED, t, q, k);
        if (seldom(6)) {
            p[random.nextInt(4)] ^= anyLong();
        }
        both("prove", () -> x.prove(p[0], p[1], p[2], p[3]), () -> twin.prove(p[0], p[1], p[2], p[3]));
    }

    /** Mostly a command as the twin says that it must be. */
    private void command(long number, long other) {
        int header = seldom(8) ? anyInt() : 1 + random.nextInt(2);
        if (twin.chip(0) == 0 || seldom(12)) {
            both("command", () -> x.command(header, number, other), () -> twin.command(header, number, other));
            return;
        }
        long wanted = seldom(3) ? number : header == 1 ? random.nextInt(4) : 32 + random.nextInt(64);
        long data = twin.hidden(wanted);
        long seal = twin.needed(header, data);
        both("command(" + header + ", hidden " + wanted + ")", () -> x.command(header, data, seal),
                () -> twin.command(header, data, seal));
    }

    /** The answer of one call, compared with the twin's. */
    private long both(String what, LongSupplier call, LongSupplier due) {
        calls++;
        long[] answers = new long[2];
        String got = outcome(call, answers, 0);
        String wanted = outcome(due, answers, 1);
        if (!got.equals(wanted)) {
            Expect.tell(name + what + " answered " + got + ", due is " + wanted);
        }
        return answers[0];
    }

    private static String outcome(LongSupplier call, long[] answers, int at) {
        try {
            answers[at] = call.getAsLong();
            return Long.toString(answers[at]);
        } catch (RuntimeException e) {
            answers[at] = -1;
            return e.getClass().getName();
        }
    }

    private int anyInt() {
        return seldom(3) ? INTS[random.nextInt(INTS.length)] : random.nextInt(6);
    }

    private long anyLong() {
        return seldom(6) ? random.nextLong() : LONGS[random.nextInt(LONGS.length)];
    }
}
