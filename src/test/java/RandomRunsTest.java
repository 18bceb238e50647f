import java.util.ArrayList;
import java.util.Arrays;
import java.util.List;
import java.util.NoSuchElementException;
import java.util.Random;

/**
 * Runs of any calls with any arguments: none throws what its promise does not name, a call that throws changes
 * nothing but the chip's session and challenge, and the same calls give the same answers.
 */
public final class RandomRunsTest {
    private static final int[] INTS = {0, 1, 2, 3, 4, 5, 6, 7, 8, 9, 10, 19, 20, 99, 100, -1, 65537, 65538, 254, 999999,
        1000000, 999999999, 1000000000, Integer.MAX_VALUE, Integer.MIN_VALUE};
    private static final long[] LONGS = {0, 1, 2, 3, 19, 32, 64, 96, 128, 160, -1, 1L << 32, Long.MAX_VALUE,
        Long.MIN_VALUE};
    private static final List<List<Class<?>>> NAMED = List.of(
            List.of(IndexOutOfBoundsException.class, IllegalStateException.class),
            List.of(),
            List.of(IndexOutOfBoundsException.class, IllegalArgumentException.class),
            List.of(IllegalArgumentException.class, IllegalStateException.class),
            List.of(),
            List.of(IllegalArgumentException.class, IllegalStateException.class),
            List.of(),
            List.of(IllegalStateException.class, IndexOutOfBoundsException.class),
            List.of(),
            List.of(IllegalStateException.class, IllegalArgumentException.class),
            List.of(IllegalStateException.class, IllegalArgumentException.class, UnsupportedOperationException.class,
                    NoSuchElementException.class, IndexOutOfBoundsException.class),
            List.of(IllegalStateException.class),
            List.of(IllegalStateException.class));
    private static final int PROVE = 9;
    private static final int COMMAND = 10;
    /** With all that is looked at after each of them an object has fewer than its 512 calls. */
    private static final int CALLS = 17;
    private static final int RUNS = 2000;
    /** So many of the things that are looked at outlast an error of the chip. */
    private static final int LASTING = 11;

    private final Random random;
    private final DocumentChip x;

    private RandomRunsTest(int seed) {
        random = new Random(seed);
        x = Papers.genuine(1, 2, 3, 4, 5).x;
    }

    public static void main(String[] args) {
        for (int seed = 0; seed < RUNS; seed++) {
            List<Long> first = new RandomRunsTest(seed).run();
            if (!first.equals(new RandomRunsTest(seed).run())) {
                Expect.tell("run " + seed + " answers otherwise the second time");
            }
        }
        Expect.finish();
    }

    private List<Long> run() {
        List<Long> answers = new ArrayList<>();
        List<Long> before = seen();
        for (int n = 0; n < CALLS; n++) {
            int which = random.nextInt(NAMED.size());
            List<Long> after;
            try {
                answers.add(call(which));
                after = seen();
            } catch (RuntimeException e) {
                answers.add((long) e.getClass().getName().hashCode());
                after = seen();
                afterThrow(which, e, before, after);
            }
            answers.addAll(after);
            before = after;
        }
        return answers;
    }

    private static void afterThrow(int which, RuntimeException e, List<Long> before, List<Long> after) {
        if (!NAMED.get(which).contains(e.getClass())) {
            Expect.tell("call " + which + " threw " + e);
        }
        boolean mayDrop = which == COMMAND || which == PROVE && e instanceof IllegalArgumentException;
        int kept = mayDrop ? LASTING : before.size();
        if (!before.subList(0, kept).equals(after.subList(0, kept))) {
            Expect.tell("call " + which + " threw and changed " + before + " to " + after);
        }
    }

    private long call(int which) {
        switch (which) {
            case 0: return x.load(anyInt(), anyLong());
            case 1: return x.sign(random.nextBoolean() ? Papers.NAME : anyLong());
            case 2: return x.print(anyInt(), anyInt(), anyInt()) ? 1 : 0;
            case 3: return x.trust(anyLong(), anyInt(), anyInt());
            case 4: return x.draw(anyLong(), anyLong(), anyLong(), anyLong()) ? 1 : 0;
            case 5: return x.change(anyInt(), anyInt(), anyLong());
            case 6: return inspectAsItWas();
            case 7: return x.held(anyInt(), anyInt());
            case 8: return x.challenge() + x.check(anyInt(), anyInt());
            case PROVE: return prove();
            case COMMAND: return command();
            case 11: return x.needed(anyInt(), anyLong());
            default: return x.hidden(anyLong());
        }
    }

    /** Mostly with the right line, lest all end with DIGIT. */
    private long inspectAsItWas() {
        for (int field = 0; field < 3 && random.nextInt(8) > 0; field++) {
            x.print(field, (int) (Papers.LINE[field] / 10), (int) (Papers.LINE[field] % 10));
        }
        return x.inspect();
    }

    private long prove() {
        if (random.nextInt(4) == 0) {
            return x.prove(anyLong(), anyLong(), anyLong(), anyLong());
        }
        long[] proof = Model.proof(Papers.SEED, anyLong(), random.nextInt(8) == 0 ? anyLong() : challengeNow(),
                anyLong());
        return x.prove(proof[0], proof[1], proof[2], proof[3]);
    }

    /** Without a challenge given out none may be asked for here. */
    private long challengeNow() {
        return x.chip(1) == 1 ? x.challenge() : 0;
    }

    private long command() {
        int header = random.nextInt(8) == 0 ? anyInt() : 1 + random.nextInt(2);
        if (x.chip(0) == 0 || random.nextInt(8) == 0) {
            return x.command(header, anyLong(), anyLong());
        }
        long data = x.hidden(anyLong());
        return x.command(header, data, x.needed(header, data));
    }

    private int anyInt() {
        return random.nextInt(3) == 0 ? INTS[random.nextInt(INTS.length)] : random.nextInt(6);
    }

    private long anyLong() {
        return random.nextInt(6) == 0 ? random.nextLong() : LONGS[random.nextInt(LONGS.length)];
    }

    /** What can be seen of the object; what an error of the chip may change comes last. */
    private List<Long> seen() {
        List<Long> all = new ArrayList<>();
        for (int what : new int[] {3, 4, 5, 6, 7}) {
            all.add((long) x.chip(what));
        }
        all.add((long) x.messages());
        for (int file = 0; file < 4; file++) {
            all.add(heldOrNone(file, 0));
        }
        all.add(heldOrNone(2, 4));
        all.addAll(Arrays.asList((long) x.chip(0), (long) x.chip(1), (long) x.chip(2), hiddenOrNone()));
        for (int i = 0; i < 7; i++) {
            all.add(x.answer(i));
        }
        return all;
    }

    private long heldOrNone(int file, int p) {
        try {
            return x.held(file, p);
        } catch (IllegalStateException e) {
            return -1;
        } catch (IndexOutOfBoundsException e) {
            return -2;
        }
    }

    private long hiddenOrNone() {
        try {
            return x.hidden(1);
        } catch (IllegalStateException e) {
            return -1;
        }
    }
}
