import java.util.NoSuchElementException;

/** The boundary cases of promises 14 to 20: somebody speaks to the chip itself. */
public final class EdgesOfTalkTest {
    private static final int LOW = Integer.MIN_VALUE;
    private static final int HIGH = Integer.MAX_VALUE;
    private static final long[] PICTURE = {11, 22, 33, 44, 55};

    public static void main(String[] args) {
        challengeEndsTheSession();
        challengeAfterChallenge();
        proveWithoutChallenge();
        proveOnce();
        proveOfEachBit();
        proveBeforeAnException();
        refusedProofLeavesTheRest();
        refusedCommandLeavesTheRest();
        refusedCommandEndsTheChallenge();
        sealsOfEachBit();
        numbersOfAnsweredWords();
        answerOfEachPlace();
        answerAfterErrors();
        answerAfterInspectionAndChallenge();
        neededForAnyCommand();
        hiddenForAnyNumber();
        neededAndHiddenChangeNothing();
        neededAndHiddenWithoutSession();
        chipOfEachNumber();
        chipOfSelectedFiles();
        chipCountsCommands();
        all512Calls();
        Expect.finish();
    }

    private static Guest welcome() {
        return Guest.welcome(Papers.genuine(PICTURE));
    }

    /** "(Its session is gone.)": and with it the file that was selected, and the latest answer. */
    private static void challengeEndsTheSession() {
        Guest guest = welcome();
        guest.select(0);
        Expect.same("challenge()", guest.x.challenge(), Papers.Q);
        Guest.state("after a challenge", guest.x, 0, 1, -1);
        long[] next = guest.talk.command(1, 1);
        Expect.raises("a command of the old session", IllegalStateException.class,
                () -> guest.x.command(1, next[1], next[2]));
    }

    /** A challenge after another one is given out as well. */
    private static void challengeAfterChallenge() {
        Papers papers = Papers.genuine(PICTURE);
        for (long q : new long[] {0, -1, Long.MIN_VALUE, Long.MAX_VALUE, 1L << 32}) {
            papers.x.draw(1, 2, q, 4);
            Expect.same("challenge() of " + q, papers.x.challenge(), q);
            Guest.state("challenge " + q, papers.x, 0, 1, -1);
        }
        long[] proof = Model.proof(papers.seed, 6, 1L << 32, 7);
        Expect.same("prove of the last one", Guest.prove(papers, proof), Model.proof(papers.seed, 1L << 32, 6, 4)[3]);
    }

    /** "IllegalStateException when no challenge is given out (nothing changes then, not even its session)" */
    private static void proveWithoutChallenge() {
        Guest guest = welcome();
        guest.select(3);
        long hidden = guest.x.hidden(5);
        for (long[] proof : new long[][] {Guest.proof(guest.papers), {1, 2, 3, 4}, {0, 0, 0, 0}}) {
            Expect.raises("prove in a session", IllegalStateException.class, () -> Guest.prove(guest.papers, proof));
            Guest.state("prove in a session", guest.x, 1, 0, 3);
            Expect.same("hidden", guest.x.hidden(5), hidden);
            Guest.answerIs("prove in a session", guest.x, Papers.talkAt(4).answer());
        }
        guest.read(0, 4);
        Papers fresh = Papers.genuine(PICTURE);
        Expect.raises("prove to a new chip", IllegalStateException.class,
                () -> Guest.prove(fresh, Guest.proof(fresh)));
        Guest.state("prove to a new chip", fresh.x, 0, 0, -1);
    }

    /** "no challenge is given out any more" */
    private static void proveOnce() {
        Papers papers = Papers.genuine(PICTURE);
        papers.x.challenge();
        Guest.prove(papers, Guest.proof(papers));
        Guest.state("after a proof", papers.x, 1, 0, -1);
        Expect.raises("the proof again", IllegalStateException.class, () -> Guest.prove(papers, Guest.proof(papers)));
        Guest.state("after the proof again", papers.x, 1, 0, -1);
    }

    /** "IllegalArgumentException when the chip answers with an error": each bit of the four words counts. */
    private static void proveOfEachBit() {
        for (int i = 0; i < 4; i++) {
            for (int bit = 0; bit < 64; bit++) {
                Papers papers = Papers.genuine(PICTURE);
                long[] proof = Guest.proof(papers);
                proof[i] ^= 1L << bit;
                papers.x.challenge();
                Expect.raises("bit " + bit + " of word " + i, IllegalArgumentException.class,
                        () -> Guest.prove(papers, proof));
                Guest.state("bit " + bit + " of word " + i, papers.x, 0, 0, -1);
            }
        }
        for (int bit = 0; bit < 64; bit++) {
            Papers papers = Papers.genuine(PICTURE);
            long[] proof = Model.proof(papers.seed, Papers.T, Papers.Q ^ 1L << bit, Papers.K);
            papers.x.challenge();
            Expect.raises("bit " + bit + " of Q", IllegalArgumentException.class, () -> Guest.prove(papers, proof));
            Guest.state("bit " + bit + " of Q", papers.x, 0, 0, -1);
        }
    }

    /** Of both exceptions the first one that prove names: an error of the chip is one, then there's no challenge. */
    private static void proveBeforeAnException() {
        Papers papers = Papers.genuine(PICTURE);
        Expect.raises("a wrong proof without challenge", IllegalStateException.class,
                () -> papers.x.prove(1, 2, 3, 4));
        papers.x.challenge();
        Expect.raises("a wrong proof", IllegalArgumentException.class, () -> papers.x.prove(1, 2, 3, 4));
        Expect.raises("a second wrong proof", IllegalStateException.class, () -> papers.x.prove(1, 2, 3, 4));
        Expect.raises("a right proof too late", IllegalStateException.class,
                () -> Guest.prove(papers, Guest.proof(papers)));
        papers.x.challenge();
        Guest.prove(papers, Guest.proof(papers));
        Guest.state("a new challenge, a new proof", papers.x, 1, 0, -1);
    }

    /** Everything but session and challenge is there: files, desk, trust, changes, drawn words, commands done. */
    private static void refusedProofLeavesTheRest() {
        Papers papers = Papers.genuine(PICTURE);
        papers.x.inspect();
        papers.x.change(99, 0, 1);
        papers.x.challenge();
        Expect.raises("prove", IllegalArgumentException.class, () -> papers.x.prove(1, 2, 3, 4));
        restStands("a refused proof", papers, 9);
    }

    private static void refusedCommandLeavesTheRest() {
        for (long[] command : new long[][] {{1, 0, 1}, {3, 0, 0}, {1, 4, 0}, {2, 5 + 32, 0}, {2, 0, 0}}) {
            Papers papers = Papers.genuine(PICTURE);
            papers.x.inspect();
            papers.x.change(99, 0, 1);
            int header = (int) command[0];
            long data = papers.x.hidden(command[1]);
            long seal = papers.x.needed(header, data) ^ command[2];
            try {
                Expect.tell("command answered " + papers.x.command(header, data, seal));
            } catch (RuntimeException e) {
                Guest.state("a refused command", papers.x, 0, 0, -1);
            }
            restStands("a refused command", papers, 9);
        }
    }

    private static void restStands(String what, Papers papers, int done) {
        DocumentChip x = papers.x;
        for (int file = 0; file < 4; file++) {
            Expect.same("words after " + what, x.chip(3 + file), papers.files[file].length);
        }
        Expect.same("commands done after " + what, x.chip(7), done);
        Expect.same("messages() after " + what, x.messages(), 22);
        Expect.same("held after " + what, x.held(2, 4), 55);
        Expect.same("the change stands after " + what, x.change(3, 3, 1), 2);
        Expect.same("it is done after " + what, x.inspect(), 3);
        Expect.same("drawn words stand after " + what, x.draw(Papers.T, Papers.K, Papers.Q, Papers.J), false);
        Expect.same("inspect after " + what, x.inspect(), 0);
        Expect.same("trust after " + what, x.trust(1, 2, 3), 2);
    }

    /** "no session (1)" is an error as well: the challenge is gone. */
    private static void refusedCommandEndsTheChallenge() {
        Papers papers = Papers.genuine(PICTURE);
        papers.x.challenge();
        Expect.raises("command without session", IllegalStateException.class, () -> papers.x.command(1, 0, 0));
        Guest.state("command without session", papers.x, 0, 0, -1);
        Expect.raises("prove then", IllegalStateException.class, () -> Guest.prove(papers, Guest.proof(papers)));
    }

    /** "the seal isn't right (2)": each bit of seal, data and header counts. */
    private static void sealsOfEachBit() {
        for (int bit = 0; bit < 64; bit++) {
            long mask = 1L << bit;
            wrongSeal("bit " + bit + " of the seal", 0, 0, mask);
            wrongSeal("bit " + bit + " of the data", 0, mask, 0);
            if (bit < 32) {
                wrongSeal("bit " + bit + " of the header", (int) mask, 0, 0);
            }
        }
        Guest guest = welcome();
        guest.select(2);
        long[] old = Papers.talk().command(1, 2);
        Expect.raises("a seal of the counter before", IllegalArgumentException.class,
                () -> guest.x.command(1, old[1], old[2]));
        Guest ahead = welcome();
        Talk talk = Papers.talkAt(5);
        long[] later = talk.sealedCommand(1, Model.c(talk.e, 2) ^ talk.counter);
        Expect.raises("a seal of the counter behind", IllegalArgumentException.class,
                () -> ahead.x.command(1, later[1], later[2]));
    }

    private static void wrongSeal(String what, int header, long data, long seal) {
        DocumentChip x = welcome().x;
        long[] command = Papers.talk().command(1, 2);
        Expect.raises(what, IllegalArgumentException.class,
                () -> x.command(1 ^ header, command[1] ^ data, command[2] ^ seal));
        Guest.state(what, x, 0, 0, -1);
    }

    /** "Answers how many words its answer has.": 2 for a SELECT, 3 .. 6 for a READ. */
    private static void numbersOfAnsweredWords() {
        Guest guest = welcome();
        Expect.same("SELECT", guest.send(1, 2), 2);
        guest.talk.answer();
        for (int n = 1; n <= 4; n++) {
            Expect.same("READ of " + n, guest.send(2, 1 + 32 * n), n + 2);
            guest.talk.answer();
        }
    }

    /** "0 when it has none such": before the first word, and behind the last of a longer and a shorter answer. */
    private static void answerOfEachPlace() {
        Guest guest = welcome();
        Guest.answerIs("no command yet", guest.x);
        guest.select(2);
        guest.read(0, 4);
        guest.read(4, 1);
        guest.read(1, 3);
        guest.select(0);
        guest.read(0, 1);
        for (int i : new int[] {-1, 3, 4, 5, 6, HIGH, LOW}) {
            Expect.same("answer(" + i + ")", guest.x.answer(i), 0);
        }
    }

    /** "when it was an error": each of the five. */
    private static void answerAfterErrors() {
        error("a wrong header", UnsupportedOperationException.class, 0, 0);
        error("no such file", NoSuchElementException.class, 1, 4);
        error("no such words", IndexOutOfBoundsException.class, 2, 5 + 32);
        Guest sealed = welcome();
        sealed.select(2);
        sealed.read(0, 4);
        Expect.raises("a wrong seal", IllegalArgumentException.class, () -> sealed.x.command(1, 2, 3));
        Guest.answerIs("a wrong seal", sealed.x);
        Expect.raises("no session", IllegalStateException.class, () -> sealed.x.command(1, 2, 3));
        Guest.answerIs("no session", sealed.x);
    }

    private static void error(String what, Class<? extends RuntimeException> due, int header, long number) {
        Guest guest = welcome();
        guest.select(2);
        guest.read(0, 4);
        guest.refused(what, due, header, number);
    }

    /** "or when an inspection or a challenge() came since": an inspection's own answers are none. */
    private static void answerAfterInspectionAndChallenge() {
        Guest inspected = welcome();
        inspected.select(2);
        inspected.read(0, 4);
        inspected.x.inspect();
        Guest.answerIs("after an inspection", inspected.x);
        Guest digit = welcome();
        digit.select(2);
        digit.read(0, 4);
        digit.x.print(0, 0, 1);
        digit.x.inspect();
        Guest.answerIs("after an inspection without messages", digit.x);
        Guest asked = welcome();
        asked.select(2);
        asked.read(0, 4);
        asked.x.challenge();
        Guest.answerIs("after a challenge", asked.x);
        Guest.prove(asked.papers, Guest.proof(asked.papers));
        Guest.answerIs("after a challenge and a proof", asked.x);
    }

    /** The seal is told for any header and any data, whether the chip would do that command or not. */
    private static void neededForAnyCommand() {
        Guest guest = welcome();
        Talk next = Papers.talkAt(4);
        for (int header : new int[] {1, 2, 0, 3, -1, HIGH, LOW}) {
            for (long data : new long[] {0, 1, -1, Long.MAX_VALUE, Long.MIN_VALUE, 1L << 32}) {
                Expect.same("needed(" + header + ", " + data + ")", guest.x.needed(header, data),
                        next.sealedCommand(header, data)[2]);
            }
        }
    }

    private static void hiddenForAnyNumber() {
        Guest guest = welcome();
        Talk next = Papers.talkAt(4);
        for (long number : new long[] {0, 1, 3, 4, -1, Long.MAX_VALUE, Long.MIN_VALUE, 1L << 32}) {
            Expect.same("hidden(" + number + ")", guest.x.hidden(number), Model.c(next.e, number) ^ next.counter);
        }
    }

    private static void neededAndHiddenChangeNothing() {
        Guest guest = welcome();
        guest.select(2);
        for (int n = 0; n < 5; n++) {
            guest.x.needed(n, n);
            guest.x.hidden(n);
            guest.x.needed(2, guest.x.hidden(32));
        }
        Guest.answerIs("the answer stands", guest.x, Papers.talkAt(4).answer());
        guest.read(0, 4);
        Expect.same("commands done", guest.x.chip(7), 2);
    }

    /** "Throws IllegalStateException when there is no session": before one, with a challenge, after an error. */
    private static void neededAndHiddenWithoutSession() {
        Papers papers = Papers.genuine(PICTURE);
        tellsNothing("a new chip", papers);
        Guest.state("a new chip", papers.x, 0, 0, -1);
        papers.x.challenge();
        tellsNothing("with a challenge", papers);
        Guest.state("with a challenge", papers.x, 0, 1, -1);
        Guest.prove(papers, Guest.proof(papers));
        Expect.same("in a session", papers.x.hidden(1), Papers.talk().command(1, 1)[1]);
        Expect.raises("command", IllegalArgumentException.class, () -> papers.x.command(1, 2, 3));
        tellsNothing("after an error", papers);
        papers.x.change(2, 0, 1);
        papers.x.inspect();
        tellsNothing("after ACCESS", papers);
        papers.x.inspect();
        Talk talk = Papers.talkAt(22);
        Expect.same("after GENUINE", papers.x.hidden(1), Model.c(talk.e, 1) ^ talk.counter);
        papers.x.change(3, 3, 1);
        papers.x.inspect();
        Expect.same("after SEALED the chip has its session", papers.x.hidden(1), Papers.talk().command(1, 1)[1]);
    }

    private static void tellsNothing(String what, Papers papers) {
        Expect.raises("needed: " + what, IllegalStateException.class, () -> papers.x.needed(1, 1));
        Expect.raises("hidden: " + what, IllegalStateException.class, () -> papers.x.hidden(1));
    }

    /** "-2 for any other number" */
    private static void chipOfEachNumber() {
        Guest guest = welcome();
        guest.select(1);
        int[] due = {1, 0, 1, 1, 3, 5, 4, 1};
        for (int what = 0; what <= 7; what++) {
            Expect.same("chip(" + what + ")", guest.x.chip(what), due[what]);
        }
        for (int what : new int[] {-1, 8, -2, 9, 10, 256, HIGH, HIGH - 1, LOW, LOW + 1, LOW + 2, LOW + 3, LOW + 6}) {
            Expect.same("chip(" + what + ")", guest.x.chip(what), -2);
        }
    }

    /** "2 the file selected (-1: none)": file 0 is one, too. */
    private static void chipOfSelectedFiles() {
        Guest guest = welcome();
        Expect.same("none selected", guest.x.chip(2), -1);
        for (int file : new int[] {0, 3, 0, 1, 2}) {
            guest.select(file);
        }
        guest.read(0, 1);
        Expect.same("a READ leaves it", guest.x.chip(2), 2);
        guest.refused("SELECT of file 4", NoSuchElementException.class, 1, 4);
    }

    /** "7 the commands that it has done since the beginning, those with errors not counted" */
    private static void chipCountsCommands() {
        Papers papers = Papers.genuine(PICTURE);
        Guest first = Guest.welcome(papers);
        Expect.same("a proof is no command", papers.x.chip(7), 0);
        first.select(2);
        Expect.same("a SELECT is one", papers.x.chip(7), 1);
        first.read(0, 4);
        Expect.same("a READ is one", papers.x.chip(7), 2);
        first.refused("no such words", IndexOutOfBoundsException.class, 2, 5 + 32);
        Expect.same("an error is none", papers.x.chip(7), 2);
        Guest.welcome(papers).refused("no such file", NoSuchElementException.class, 1, 4);
        Guest.welcome(papers).refused("no such header", UnsupportedOperationException.class, 3, 0);
        Expect.raises("no session", IllegalStateException.class, () -> papers.x.command(1, 2, 3));
        Expect.same("other errors are none", papers.x.chip(7), 2);
        papers.x.inspect();
        Expect.same("those of an inspection count", papers.x.chip(7), 11);
        papers.x.change(8, 0, 1);
        papers.x.inspect();
        Expect.same("but for its error", papers.x.chip(7), 13);
        Guest.welcome(papers).select(0);
        Expect.same("a new session does not begin anew", papers.x.chip(7), 14);
    }

    /** "An object is used for at most 512 calls": all of these are answered. */
    private static void all512Calls() {
        DocumentChip x = new DocumentChip(0, 0, 0);
        x.load(2, 77);
        x.challenge();
        long[] proof = Model.proof(Model.digest(0, 0, 0), 1, 0, 2);
        x.prove(proof[0], proof[1], proof[2], proof[3]);
        Talk talk = new Talk(2, 0, 0, 1);
        for (int n = 0; n < 508; n++) {
            int header = n % 2 + 1;
            long[] command = talk.command(header, header == 1 ? 2 : 32);
            long[] due = header == 1 ? talk.answer() : talk.answer(77);
            Expect.same("command " + n, x.command(header, command[1], command[2]), due.length);
        }
        Expect.same("commands done", x.chip(7), 508);
    }
}
