import java.util.Arrays;

/** Somebody who knows the line and speaks to the chip without a desk. */
final class Guest {
    final Papers papers;
    final DocumentChip x;
    final Talk talk = Papers.talk();
    private int selected = -1;

    private Guest(Papers papers) {
        this.papers = papers;
        x = papers.x;
    }

    /** With a session that has begun just now. */
    static Guest welcome(Papers papers) {
        Guest guest = new Guest(papers);
        guest.x.challenge();
        prove(papers, proof(papers));
        return guest;
    }

    static long[] proof(Papers papers) {
        return Model.proof(papers.seed, Papers.T, Papers.Q, Papers.K);
    }

    static long prove(Papers papers, long[] proof) {
        return papers.x.prove(proof[0], proof[1], proof[2], proof[3]);
    }

    /** The command that comes now, with its data hidden and its seal. */
    int send(int header, long number) {
        long[] command = talk.command(header, number);
        return x.command(header, command[1], command[2]);
    }

    /** A SELECT that must be done. */
    void select(int file) {
        Expect.same("SELECT of file " + file, send(1, file), 2);
        answerIs("SELECT of file " + file, x, talk.answer());
        Expect.same("file selected", x.chip(2), file);
        selected = file;
    }

    /** A READ of the file selected that must be done. */
    void read(int p, int n) {
        String what = "READ of " + n + " words from " + p;
        Expect.same(what, send(2, p + 32L * n), n + 2);
        answerIs(what, x, talk.answer(Arrays.copyOfRange(papers.files[selected], p, p + n)));
    }

    /** A command that the chip must refuse. */
    void refused(String what, Class<? extends RuntimeException> due, int header, long number) {
        Expect.raises(what, due, () -> send(header, number));
        state("after " + what, x, 0, 0, -1);
        answerIs("after " + what, x);
    }

    static void state(String what, DocumentChip x, int session, int challenge, int selected) {
        Expect.same("session: " + what, x.chip(0), session);
        Expect.same("challenge: " + what, x.chip(1), challenge);
        Expect.same("selected: " + what, x.chip(2), selected);
    }

    static void answerIs(String what, DocumentChip x, long... due) {
        for (int i = 0; i < due.length; i++) {
            Expect.same(what + ": answer(" + i + ")", x.answer(i), due[i]);
        }
        for (int i : new int[] {due.length, due.length + 1, 100, -1, Integer.MAX_VALUE, Integer.MIN_VALUE}) {
            Expect.same(what + ": answer(" + i + ")", x.answer(i), 0);
        }
    }
}
