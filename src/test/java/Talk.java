/** A session as the document tells it: what is sent, and what the chip must answer. */
final class Talk {
    static final long STATUS = 36864;

    final long e;
    final long m;
    long counter;

    Talk(long k, long j, long q, long t) {
        e = Model.key(k ^ j, 1);
        m = Model.key(k ^ j, 2);
        counter = (q << 32) | (t & 0xFFFFFFFFL);
    }

    /** The command that comes now; the counter grows. */
    long[] command(long header, long number) {
        counter++;
        return sealedCommand(header, Model.c(e, number) ^ counter);
    }

    /** A command of the counter as it is, sealed as it must be. */
    long[] sealedCommand(long header, long data) {
        return new long[] {header, data, Model.seal(m, counter, header, data)};
    }

    /** The answer that comes now; the counter grows. */
    long[] answer(long... words) {
        counter++;
        long[] sent = new long[words.length];
        for (int i = 0; i < words.length; i++) {
            sent[i] = Model.c(e, words[i] ^ counter);
        }
        return sealedAnswer(STATUS, sent);
    }

    /** An answer of the counter as it is with these words as they are sent, sealed as it must be. */
    long[] sealedAnswer(long status, long... sent) {
        long[] row = new long[sent.length + 2];
        row[0] = counter;
        System.arraycopy(sent, 0, row, 1, sent.length);
        row[sent.length + 1] = status;
        long[] whole = new long[sent.length + 2];
        System.arraycopy(row, 1, whole, 0, sent.length + 1);
        whole[sent.length + 1] = Model.seal(m, row);
        return whole;
    }
}
