import java.util.NoSuchElementException;

/** Promises 14 (challenge), 15 (prove), 16 (command), 17 (answer), 18 (needed), 19 (hidden) and 20 (chip). */
public final class ChipTest {
    private static final long[] PICTURE = {11, 22, 33, 44, 55, -66};
    private static final long[] PROOF = Model.proof(Papers.SEED, Papers.T, Papers.Q, Papers.K);

    public static void main(String[] args) {
        challenge();
        prove();
        refusedProofs();
        drawnBetween();
        commands();
        everyPlace();
        noSession();
        refusedCommands();
        orderOfErrors();
        filesThatChange();
        answers();
        neededAndHidden();
        chip();
        Expect.finish();
    }

    /** A chip with a session that somebody has begun without a desk. */
    private static Papers opened() {
        Papers papers = Papers.genuine(PICTURE);
        papers.x.challenge();
        send(papers, PROOF);
        return papers;
    }

    private static long send(Papers papers, long[] proof) {
        return papers.x.prove(proof[0], proof[1], proof[2], proof[3]);
    }

    private static int send(Papers papers, Talk talk, int header, long number) {
        long[] command = talk.command(header, number);
        return papers.x.command(header, command[1], command[2]);
    }

    private static void state(String what, Papers papers, int session, int challenge, int selected) {
        Expect.same("session: " + what, papers.x.chip(0), session);
        Expect.same("challenge: " + what, papers.x.chip(1), challenge);
        Expect.same("selected: " + what, papers.x.chip(2), selected);
    }

    private static void answerIs(String what, Papers papers, long... due) {
        for (int i = 0; i < due.length; i++) {
            Expect.same(what + ": answer(" + i + ")", papers.x.answer(i), due[i]);
        }
        for (int i : new int[] {due.length, due.length + 1, 100, -1, Integer.MAX_VALUE, Integer.MIN_VALUE}) {
            Expect.same(what + ": answer(" + i + ")", papers.x.answer(i), 0);
        }
    }

    private static void challenge() {
        Papers papers = opened();
        send(papers, Papers.talk(), 1, 2);
        state("before a challenge", papers, 1, 0, 2);
        Expect.same("challenge()", papers.x.challenge(), Papers.Q);
        state("after a challenge", papers, 0, 1, -1);
        answerIs("after a challenge", papers);
        Expect.same("challenge() again", papers.x.challenge(), Papers.Q);
        state("after a second one", papers, 0, 1, -1);
    }

    private static void prove() {
        Papers papers = Papers.genuine(PICTURE);
        papers.x.challenge();
        Expect.same("prove", send(papers, PROOF), Model.proof(Papers.SEED, Papers.Q, Papers.T, Papers.J)[3]);
        state("after a proof", papers, 1, 0, -1);
        send(papers, Papers.talk(), 1, 3);
        Expect.raises("the same proof again", IllegalStateException.class, () -> send(papers, PROOF));
        state("the session stands", papers, 1, 0, 3);
        answerIs("the answer stands", papers, answerAfter(Papers.talkAt(4)));
        Expect.same("messages() are an inspection's", papers.x.messages(), 0);
        Expect.raises("held without inspection", IllegalStateException.class, () -> papers.x.held(0, 0));
        papers.x.challenge();
        send(papers, PROOF);
        state("the new session has nothing selected", papers, 1, 0, -1);
    }

    private static long[] answerAfter(Talk talk, long... words) {
        return talk.answer(words);
    }

    private static void refusedProofs() {
        Papers fresh = Papers.genuine(PICTURE);
        Expect.raises("prove without challenge", IllegalStateException.class, () -> send(fresh, PROOF));
        for (int i = 0; i < 4; i++) {
            long[] damaged = PROOF.clone();
            damaged[i] ^= 1L << 63 - i;
            refused("word " + i + " damaged", damaged);
        }
        for (int i = 0; i < 2; i++) {
            long[] damaged = PROOF.clone();
            damaged[i] ^= 1;
            refused("word " + i + " damaged under a right seal",
                    Model.sealed(Papers.SEED, damaged[0], damaged[1], damaged[2]));
        }
        refused("another challenge", Model.proof(Papers.SEED, Papers.T, Papers.Q + 1, Papers.K));
        refused("the lower half of the challenge", Model.proof(Papers.SEED, Papers.T, (int) Papers.Q, Papers.K));
        refused("another line", Model.proof(Papers.SEED + 1, Papers.T, Papers.Q, Papers.K));
    }

    private static void refused(String what, long[] proof) {
        Papers papers = Papers.genuine(PICTURE);
        papers.x.challenge();
        Expect.raises("prove: " + what, IllegalArgumentException.class, () -> send(papers, proof));
        state(what, papers, 0, 0, -1);
        Expect.raises("prove once more: " + what, IllegalStateException.class, () -> send(papers, PROOF));
    }

    /** The challenge is the one that was given out, J the one drawn when the proof comes. */
    private static void drawnBetween() {
        Papers papers = Papers.genuine(PICTURE);
        papers.x.challenge();
        papers.x.draw(1, 2, 3, 4);
        Expect.same("prove after a draw", send(papers, PROOF),
                Model.proof(Papers.SEED, Papers.Q, Papers.T, 4)[3]);
        Talk talk = new Talk(Papers.K, 4, Papers.Q, Papers.T);
        Expect.same("hidden after a draw", papers.x.hidden(1), talk.command(1, 1)[1]);
        papers.x.draw(5, 6, 7, 8);
        Expect.same("a draw leaves the session", papers.x.hidden(1), Model.c(talk.e, 1) ^ talk.counter);
    }

    private static void commands() {
        Papers papers = opened();
        Talk talk = Papers.talk();
        Expect.same("SELECT of the picture", send(papers, talk, 1, 2), 2);
        answerIs("SELECT", papers, talk.answer());
        state("after SELECT", papers, 1, 0, 2);
        Expect.same("READ of four", send(papers, talk, 2, 4 * 32), 6);
        answerIs("READ of four", papers, talk.answer(11, 22, 33, 44));
        Expect.same("READ of two", send(papers, talk, 2, 4 + 2 * 32), 4);
        answerIs("READ of two", papers, talk.answer(55, -66));
        Expect.same("SELECT of the list", send(papers, talk, 1, 0), 2);
        answerIs("SELECT again", papers, talk.answer());
        Expect.same("READ of one", send(papers, talk, 2, 32), 3);
        answerIs("READ of one", papers, talk.answer(19));
        Expect.same("commands done", papers.x.chip(7), 5);
        long[] replayed = Papers.talk().command(1, 2);
        Expect.raises("a command once more", IllegalArgumentException.class,
                () -> papers.x.command(1, replayed[1], replayed[2]));
        Expect.same("commands done, errors not counted", papers.x.chip(7), 5);
    }

    private static void everyPlace() {
        for (int p = 0; p < 32; p++) {
            for (int n = -1; n <= 6; n++) {
                Papers papers = opened();
                Talk talk = Papers.talk();
                send(papers, talk, 1, 2);
                talk.answer();
                long number = p + 32L * n;
                if (n >= 1 && n <= 4 && p + n <= PICTURE.length) {
                    Expect.same("READ of " + n + " from " + p, send(papers, talk, 2, number), n + 2);
                    answerIs("READ", papers, talk.answer(java.util.Arrays.copyOfRange(PICTURE, p, p + n)));
                } else {
                    Expect.raises("READ of " + n + " from " + p, IndexOutOfBoundsException.class,
                            () -> send(papers, talk, 2, number));
                    state("after it", papers, 0, 0, -1);
                    answerIs("after it", papers);
                }
            }
        }
    }

    private static void noSession() {
        Papers papers = Papers.genuine(PICTURE);
        Expect.raises("command without session", IllegalStateException.class, () -> papers.x.command(1, 2, 3));
        papers.x.challenge();
        Expect.raises("command with a challenge alone", IllegalStateException.class, () -> papers.x.command(9, 2, 3));
        state("the challenge is gone", papers, 0, 0, -1);
        Expect.raises("prove then", IllegalStateException.class, () -> send(papers, PROOF));
    }

    private static void refusedCommands() {
        refusal("a wrong seal", IllegalArgumentException.class, 1, 2, 1);
        refusal("header 0", UnsupportedOperationException.class, 0, 2, 0);
        refusal("header 3", UnsupportedOperationException.class, 3, 2, 0);
        refusal("header -1", UnsupportedOperationException.class, -1, 2, 0);
        refusal("the lowest header", UnsupportedOperationException.class, Integer.MIN_VALUE, 2, 0);
        refusal("SELECT of file 4", NoSuchElementException.class, 1, 4, 0);
        refusal("SELECT of file -1", NoSuchElementException.class, 1, -1, 0);
        refusal("SELECT of a file above", NoSuchElementException.class, 1, 1L << 32, 0);
        refusal("SELECT of the lowest", NoSuchElementException.class, 1, Long.MIN_VALUE, 0);
        refusal("READ with none selected", NoSuchElementException.class, 2, 32, 0);
        refusal("READ of nothing with none selected", NoSuchElementException.class, 2, 0, 0);
        for (long number : new long[] {0, 31, 5 * 32, 6 + 32, 3 + 4 * 32, -1, 32 | 1L << 32, 32 | 1L << 63,
            32 | 1L << 37, Long.MAX_VALUE, Long.MIN_VALUE}) {
            Papers papers = opened();
            Talk talk = Papers.talk();
            send(papers, talk, 1, 2);
            talk.answer();
            Expect.raises("READ " + number, IndexOutOfBoundsException.class, () -> send(papers, talk, 2, number));
            state("READ " + number, papers, 0, 0, -1);
            answerIs("READ " + number, papers);
            Expect.same("commands done", papers.x.chip(7), 1);
        }
    }

    /** The first command of a session, with the seal xored. */
    private static void refusal(String what, Class<? extends RuntimeException> due, int header, long number,
            long seal) {
        Papers papers = opened();
        long[] command = Papers.talk().command(header, number);
        Expect.raises(what, due, () -> papers.x.command(header, command[1], command[2] ^ seal));
        state(what, papers, 0, 0, -1);
        answerIs(what, papers);
        Expect.same("commands done: " + what, papers.x.chip(7), 0);
        Expect.raises("then: " + what, IllegalStateException.class,
                () -> papers.x.command(header, command[1], command[2]));
        Expect.raises("needed: " + what, IllegalStateException.class, () -> papers.x.needed(1, 1));
        Expect.raises("hidden: " + what, IllegalStateException.class, () -> papers.x.hidden(1));
    }

    private static void orderOfErrors() {
        refusal("the seal counts before the header", IllegalArgumentException.class, 7, 9, 1);
        refusal("the seal counts before the file", IllegalArgumentException.class, 1, 9, 1);
        refusal("the header counts before the file", UnsupportedOperationException.class, 7, 9, 0);
        refusal("a file not selected counts before its words", NoSuchElementException.class, 2, 9 * 32, 0);
    }

    private static void filesThatChange() {
        Papers papers = opened();
        Talk talk = Papers.talk();
        send(papers, talk, 1, 3);
        talk.answer();
        papers.x.load(3, 5);
        Expect.same("READ of a word loaded since", send(papers, talk, 2, 4 + 32), 3);
        answerIs("READ of it", papers, talk.answer(5));
        papers.x.sign(1);
        Expect.raises("READ of a word that is gone", IndexOutOfBoundsException.class,
                () -> send(papers, talk, 2, 3 + 32));
    }

    private static void answers() {
        Papers papers = opened();
        answerIs("before a command", papers);
        Talk talk = Papers.talk();
        send(papers, talk, 1, 0);
        long[] due = talk.answer();
        papers.x.load(2, 1);
        papers.x.draw(1, 2, 3, 4);
        papers.x.needed(1, 1);
        papers.x.hidden(1);
        answerIs("other calls leave it", papers, due);
        papers.x.inspect();
        answerIs("after an inspection", papers);
    }

    private static void neededAndHidden() {
        Papers papers = Papers.genuine(PICTURE);
        Expect.raises("needed without session", IllegalStateException.class, () -> papers.x.needed(1, 1));
        Expect.raises("hidden without session", IllegalStateException.class, () -> papers.x.hidden(1));
        papers.x.challenge();
        Expect.raises("needed with a challenge alone", IllegalStateException.class, () -> papers.x.needed(1, 1));
        Expect.raises("hidden with a challenge alone", IllegalStateException.class, () -> papers.x.hidden(1));
        send(papers, PROOF);
        Talk talk = Papers.talk();
        for (int round = 0; round < 3; round++) {
            long[] command = talk.command(1, round);
            Expect.same("hidden(" + round + ")", papers.x.hidden(round), command[1]);
            Expect.same("hidden again", papers.x.hidden(round), command[1]);
            Expect.same("hidden(-1)", papers.x.hidden(-1), Model.c(talk.e, -1) ^ talk.counter);
            Expect.same("needed", papers.x.needed(1, command[1]), command[2]);
            Expect.same("needed for a header below 0", papers.x.needed(-7, 8), talk.sealedCommand(-7, 8)[2]);
            papers.x.command(1, command[1], command[2]);
            talk.answer();
        }
        counterWraps();
    }

    private static void counterWraps() {
        Papers papers = Papers.genuine(PICTURE);
        papers.x.draw(0, 0, -1, 0);
        papers.x.challenge();
        send(papers, Model.proof(Papers.SEED, -1, -1, 5));
        Talk talk = new Talk(5, 0, -1, -1);
        Expect.same("a counter of -1 grows to 0", papers.x.hidden(3), Model.c(talk.e, 3));
        send(papers, talk, 1, 3);
        answerIs("a counter of 1", papers, talk.answer());
    }

    private static void chip() {
        Papers papers = Papers.genuine(PICTURE);
        int[] due = {0, 0, -1, 1, 3, 6, 4, 0};
        for (int what = 0; what < due.length; what++) {
            Expect.same("chip(" + what + ")", papers.x.chip(what), due[what]);
        }
        for (int what : new int[] {-1, 8, 9, Integer.MAX_VALUE, Integer.MIN_VALUE, Integer.MIN_VALUE + 3}) {
            Expect.same("chip(" + what + ")", papers.x.chip(what), -2);
        }
    }
}
