import java.util.NoSuchElementException;

/** Promises 14 (challenge), 15 (prove), 16 (command), 17 (answer), 18 (needed), 19 (hidden) and 20 (chip). */
public final class ChipTest {
    private static final long[] PICTURE = {11, 22, 33, 44, 55, -66};

    public static void main(String[] args) {
        writtenOut();
        challenge();
        prove();
        refusedProofs();
        drawnBetween();
        commands();
        everyPlace();
        noSession();
        refusedCommands();
        orderOfErrors();
        filesThatChange();
        answers();
        neededAndHidden();
        chip();
        Expect.finish();
    }

    private static Guest welcome() {
        return Guest.welcome(Papers.genuine(PICTURE));
    }

    /** Words that were worked out by a program in another language. */
    private static void writtenOut() {
        DocumentChip x = new DocumentChip(123456789, 800101, 300101);
        for (long word : PICTURE) {
            x.load(2, word);
        }
        x.draw(1, 2, 3003, 4004);
        Expect.same("challenge()", x.challenge(), 3003);
        Expect.same("prove", x.prove(-5536002853537926114L, -3843605467015184358L, -1719276405023700286L,
                -5368283958011786434L), 743512299451832463L);
        Expect.same("hidden(2)", x.hidden(2), 5266006378999808889L);
        Expect.same("needed(1)", x.needed(1, 5266006378999808889L), -2128247618238906572L);
        Expect.same("SELECT", x.command(1, 5266006378999808889L, -2128247618238906572L), 2);
        Guest.answerIs("SELECT", x, 36864, -326089937578840669L);
        Expect.same("hidden(67)", x.hidden(67), 2038449886121527941L);
        Expect.same("needed(2)", x.needed(2, 2038449886121527941L), 193056479712978056L);
        Expect.same("READ", x.command(2, 2038449886121527941L, 193056479712978056L), 4);
        Guest.answerIs("READ", x, -1855558609180990521L, -3018412552096776807L, 36864, 1036198323326283331L);
    }

    private static void challenge() {
        Guest guest = welcome();
        guest.select(2);
        Guest.state("before a challenge", guest.x, 1, 0, 2);
        Expect.same("challenge()", guest.x.challenge(), Papers.Q);
        Guest.state("after a challenge", guest.x, 0, 1, -1);
        Guest.answerIs("after a challenge", guest.x);
        Expect.same("challenge() again", guest.x.challenge(), Papers.Q);
        Guest.state("after a second one", guest.x, 0, 1, -1);
    }

    private static void prove() {
        Papers papers = Papers.genuine(PICTURE);
        long[] proof = Guest.proof(papers);
        papers.x.challenge();
        Expect.same("prove", Guest.prove(papers, proof),
                Model.proof(Papers.SEED, Papers.Q, Papers.T, Papers.J)[3]);
        Guest.state("after a proof", papers.x, 1, 0, -1);
        Guest guest = Guest.welcome(papers);
        guest.select(3);
        Expect.raises("the same proof again", IllegalStateException.class, () -> Guest.prove(papers, proof));
        Guest.state("the session stands", papers.x, 1, 0, 3);
        Guest.answerIs("the answer stands", papers.x, Papers.talkAt(4).answer());
        Expect.same("messages() are an inspection's", papers.x.messages(), 0);
        Expect.raises("held without inspection", IllegalStateException.class, () -> papers.x.held(0, 0));
        papers.x.challenge();
        Guest.prove(papers, proof);
        Guest.state("the new session has nothing selected", papers.x, 1, 0, -1);
    }

    private static void refusedProofs() {
        Papers fresh = Papers.genuine(PICTURE);
        long[] proof = Guest.proof(fresh);
        Expect.raises("prove without challenge", IllegalStateException.class, () -> Guest.prove(fresh, proof));
        for (int i = 0; i < 4; i++) {
            long[] damaged = proof.clone();
            damaged[i] ^= 1L << 63 - i;
            refused("word " + i + " damaged", damaged);
        }
        for (int i = 0; i < 2; i++) {
            long[] damaged = proof.clone();
            damaged[i] ^= 1;
            refused("word " + i + " damaged under a right seal",
                    Model.sealed(Papers.SEED, damaged[0], damaged[1], damaged[2]));
        }
        refused("another challenge", Model.proof(Papers.SEED, Papers.T, Papers.Q + 1, Papers.K));
        refused("the lower half of the challenge", Model.proof(Papers.SEED, Papers.T, (int) Papers.Q, Papers.K));
        refused("another line", Model.proof(Papers.SEED + 1, Papers.T, Papers.Q, Papers.K));
    }

    private static void refused(String what, long[] proof) {
        Papers papers = Papers.genuine(PICTURE);
        papers.x.challenge();
        Expect.raises("prove: " + what, IllegalArgumentException.class, () -> Guest.prove(papers, proof));
        Guest.state(what, papers.x, 0, 0, -1);
        Expect.raises("prove once more: " + what, IllegalStateException.class,
                () -> Guest.prove(papers, Guest.proof(papers)));
    }

    /** The challenge is the one that was given out, J the one drawn when the proof comes. */
    private static void drawnBetween() {
        Papers papers = Papers.genuine(PICTURE);
        papers.x.challenge();
        papers.x.draw(1, 2, 3, 4);
        Expect.same("prove after a draw", Guest.prove(papers, Guest.proof(papers)),
                Model.proof(Papers.SEED, Papers.Q, Papers.T, 4)[3]);
        Talk talk = new Talk(Papers.K, 4, Papers.Q, Papers.T);
        Expect.same("hidden after a draw", papers.x.hidden(1), talk.command(1, 1)[1]);
        papers.x.draw(5, 6, 7, 8);
        Expect.same("a draw leaves the session", papers.x.hidden(1), Model.c(talk.e, 1) ^ talk.counter);
    }

    private static void commands() {
        Guest guest = welcome();
        guest.select(2);
        guest.read(0, 4);
        guest.read(4, 2);
        guest.select(0);
        guest.read(0, 1);
        Expect.same("commands done", guest.x.chip(7), 5);
        long[] replayed = Papers.talk().command(1, 2);
        Expect.raises("a command once more", IllegalArgumentException.class,
                () -> guest.x.command(1, replayed[1], replayed[2]));
        Expect.same("commands done, errors not counted", guest.x.chip(7), 5);
    }

    private static void everyPlace() {
        for (int p = 0; p < 32; p++) {
            for (int n = -1; n <= 6; n++) {
                Guest guest = welcome();
                guest.select(2);
                if (n >= 1 && n <= 4 && p + n <= PICTURE.length) {
                    guest.read(p, n);
                } else {
                    guest.refused("READ of " + n + " from " + p, IndexOutOfBoundsException.class, 2, p + 32L * n);
                }
            }
        }
    }

    private static void noSession() {
        Papers papers = Papers.genuine(PICTURE);
        Expect.raises("command without session", IllegalStateException.class, () -> papers.x.command(1, 2, 3));
        papers.x.challenge();
        Expect.raises("command with a challenge alone", IllegalStateException.class, () -> papers.x.command(9, 2, 3));
        Guest.state("the challenge is gone", papers.x, 0, 0, -1);
        Expect.raises("prove then", IllegalStateException.class, () -> Guest.prove(papers, Guest.proof(papers)));
    }

    private static void refusedCommands() {
        refusal("a wrong seal", IllegalArgumentException.class, 1, 2, 1);
        refusal("header 0", UnsupportedOperationException.class, 0, 2, 0);
        refusal("header 3", UnsupportedOperationException.class, 3, 2, 0);
        refusal("header -1", UnsupportedOperationException.class, -1, 2, 0);
        refusal("the lowest header", UnsupportedOperationException.class, Integer.MIN_VALUE, 2, 0);
        refusal("SELECT of file 4", NoSuchElementException.class, 1, 4, 0);
        refusal("SELECT of file -1", NoSuchElementException.class, 1, -1, 0);
        refusal("SELECT of a file above", NoSuchElementException.class, 1, 1L << 32, 0);
        refusal("SELECT of the lowest", NoSuchElementException.class, 1, Long.MIN_VALUE, 0);
        refusal("READ with none selected", NoSuchElementException.class, 2, 32, 0);
        refusal("READ of nothing with none selected", NoSuchElementException.class, 2, 0, 0);
        for (long number : new long[] {0, 31, 5 * 32, 6 + 32, 3 + 4 * 32, -1, 32 | 1L << 32, 32 | 1L << 63,
            32 | 1L << 37, Long.MAX_VALUE, Long.MIN_VALUE}) {
            Guest guest = welcome();
            guest.select(2);
            guest.refused("READ " + number, IndexOutOfBoundsException.class, 2, number);
            Expect.same("commands done", guest.x.chip(7), 1);
        }
    }

    /** The first command of a session, with the seal xored. */
    private static void refusal(String what, Class<? extends RuntimeException> due, int header, long number,
            long seal) {
        DocumentChip x = welcome().x;
        long[] command = Papers.talk().command(header, number);
        Expect.raises(what, due, () -> x.command(header, command[1], command[2] ^ seal));
        Guest.state(what, x, 0, 0, -1);
        Guest.answerIs(what, x);
        Expect.same("commands done: " + what, x.chip(7), 0);
        Expect.raises("then: " + what, IllegalStateException.class, () -> x.command(header, command[1], command[2]));
        Expect.raises("needed: " + what, IllegalStateException.class, () -> x.needed(1, 1));
        Expect.raises("hidden: " + what, IllegalStateException.class, () -> x.hidden(1));
    }

    private static void orderOfErrors() {
        refusal("the seal counts before the header", IllegalArgumentException.class, 7, 9, 1);
        refusal("the seal counts before the file", IllegalArgumentException.class, 1, 9, 1);
        refusal("the header counts before the file", UnsupportedOperationException.class, 7, 9, 0);
        refusal("a file not selected counts before its words", NoSuchElementException.class, 2, 9 * 32, 0);
    }

    private static void filesThatChange() {
        Guest guest = welcome();
        guest.select(3);
        guest.papers.put(3, 5);
        guest.read(4, 1);
        guest.x.sign(1);
        guest.refused("READ of a word that is gone", IndexOutOfBoundsException.class, 2, 3 + 32);
    }

    private static void answers() {
        Guest guest = welcome();
        Guest.answerIs("before a command", guest.x);
        guest.select(0);
        guest.x.load(2, 1);
        guest.x.draw(1, 2, 3, 4);
        guest.x.needed(1, 1);
        guest.x.hidden(1);
        Guest.answerIs("other calls leave it", guest.x, Papers.talkAt(4).answer());
        guest.x.inspect();
        Guest.answerIs("after an inspection", guest.x);
    }

    private static void neededAndHidden() {
        Papers papers = Papers.genuine(PICTURE);
        Expect.raises("needed without session", IllegalStateException.class, () -> papers.x.needed(1, 1));
        Expect.raises("hidden without session", IllegalStateException.class, () -> papers.x.hidden(1));
        papers.x.challenge();
        Expect.raises("needed with a challenge alone", IllegalStateException.class, () -> papers.x.needed(1, 1));
        Expect.raises("hidden with a challenge alone", IllegalStateException.class, () -> papers.x.hidden(1));
        Guest.prove(papers, Guest.proof(papers));
        Talk talk = Papers.talk();
        for (int round = 0; round < 3; round++) {
            long[] command = talk.command(1, round);
            Expect.same("hidden(" + round + ")", papers.x.hidden(round), command[1]);
            Expect.same("hidden again", papers.x.hidden(round), command[1]);
            Expect.same("hidden(-1)", papers.x.hidden(-1), Model.c(talk.e, -1) ^ talk.counter);
            Expect.same("needed", papers.x.needed(1, command[1]), command[2]);
            Expect.same("needed for a header below 0", papers.x.needed(-7, 8), talk.sealedCommand(-7, 8)[2]);
            papers.x.command(1, command[1], command[2]);
            talk.answer();
        }
    }

    private static void chip() {
        Papers papers = Papers.genuine(PICTURE);
        int[] due = {0, 0, -1, 1, 3, 6, 4, 0};
        for (int what = 0; what < due.length; what++) {
            Expect.same("chip(" + what + ")", papers.x.chip(what), due[what]);
        }
        for (int what : new int[] {-1, 8, 9, Integer.MAX_VALUE, Integer.MIN_VALUE, Integer.MIN_VALUE + 3}) {
            Expect.same("chip(" + what + ")", papers.x.chip(what), -2);
        }
    }
}
