/** Promises 10 and 11: changes on the way, from plain damage to forgery by one who knows the keys. */
public final class ChangesTest {
    private static final long[] PICTURE = {11, 22, 33, 44, 55};
    private static final long A = Model.key(Papers.SEED, 1);

    public static void main(String[] args) {
        everyWord();
        missingWords();
        onceOnly();
        forgedChallenge();
        forgedProof();
        forgedReply();
        forgedCommands();
        forgedAnswers();
        forgedWords();
        Expect.finish();
    }

    private static void verdict(String what, Papers papers, int due, int messages) {
        Expect.same("inspect: " + what, papers.x.inspect(), due);
        Expect.same("messages(): " + what, papers.x.messages(), messages);
    }

    /** The foretold messages are the right ones, for each word of them counts. */
    private static void everyWord() {
        Papers papers = Papers.genuine(PICTURE);
        int number = papers.messages().size();
        Expect.same("foretold messages", number, 22);
        for (int m = 0; m < number; m++) {
            for (int i = 0; i < 10; i++) {
                boolean there = i < papers.messages().get(m).length;
                Papers damaged = Papers.genuine(PICTURE);
                damaged.x.change(m, i, 1L << (7 * i + m));
                verdict("message " + m + " word " + i, damaged, there ? damage(m) : 0, there ? end(m) : 22);
                Expect.same("session after message " + m + " word " + i, damaged.x.chip(0),
                        there && (m <= 2 || m % 2 == 0) ? 0 : 1);
                verdict("the next one", damaged, 0, 22);
            }
        }
    }

    private static int damage(int m) {
        if (m <= 2) {
            return 2;
        }
        return m % 2 == 0 ? 5 : 3;
    }

    private static int end(int m) {
        return m <= 2 ? 4 : m + 1 + (m + 1) % 2;
    }

    private static void missingWords() {
        Papers papers = Papers.genuine(PICTURE);
        papers.x.change(0, 0, 1);
        papers.x.change(22, 0, 1);
        papers.x.change(99, 9, 1);
        verdict("messages that there aren't", papers, 0, 22);
        Papers error = Papers.genuine(PICTURE);
        error.x.change(2, 0, 1);
        error.x.change(3, 3, 1);
        verdict("an error has no words", error, 2, 4);
    }

    private static void onceOnly() {
        Papers papers = Papers.genuine(PICTURE);
        papers.x.change(6, 1, 12);
        papers.x.change(6, 1, 12);
        verdict("two changes that undo one another", papers, 0, 22);
        papers.x.change(6, 1, 12);
        papers.x.change(6, 1, 8);
        papers.x.change(6, 1, 4);
        verdict("three changes that undo one another", papers, 0, 22);
        papers.x.change(6, 1, 12);
        papers.x.change(6, 1, 8);
        verdict("two changes of one word", papers, 5, 8);
        verdict("changes are forgotten", papers, 0, 22);
    }

    /** The desk is told another challenge, and its proof is made fit for the chip again. */
    private static void forgedChallenge() {
        Papers papers = Papers.genuine(PICTURE);
        long told = Papers.Q ^ 5;
        long[] sent = Model.proof(Papers.SEED, Papers.T, told, Papers.K);
        long[] right = Model.sealed(Papers.SEED, sent[0], Model.c(A, Papers.Q ^ sent[0]), sent[2]);
        papers.x.change(1, 0, 5);
        papers.x.change(2, 1, sent[1] ^ right[1]);
        papers.x.change(2, 3, sent[3] ^ right[3]);
        verdict("another challenge for the desk alone", papers, 4, 4);
        Expect.same("the chip's session stands", papers.x.chip(0), 1);
        Talk talk = new Talk(Papers.K ^ sent[1] ^ right[1], Papers.J, Papers.Q, Papers.T);
        long[] next = talk.command(1, 2);
        Expect.same("with K as the chip found it", papers.x.needed(1, next[1]), next[2]);
    }

    private static void forgedProof() {
        Papers papers = Papers.genuine(PICTURE);
        long[] sent = Model.proof(Papers.SEED, Papers.T, Papers.Q, Papers.K);
        papers.replace(2, Model.sealed(Papers.SEED, sent[0] ^ 1, sent[1], sent[2]));
        verdict("a proof with another challenge under a right seal", papers, 2, 4);
        Expect.same("session then", papers.x.chip(0), 0);

        long otherT = Papers.T ^ 3;
        long a = Model.c(A, otherT);
        long b = Model.c(A, Papers.Q ^ a);
        papers.replace(2, Model.sealed(Papers.SEED, a, b, sent[2]));
        verdict("another T for the chip", papers, 4, 4);
        Talk talk = new Talk(Papers.K ^ sent[1] ^ b, Papers.J, Papers.Q, otherT);
        Expect.same("the chip's counter has T as it found it", papers.x.hidden(2), talk.command(1, 2)[1]);

        papers.replace(2, Model.sealed(Papers.SEED, sent[0], sent[1], sent[2] ^ 1));
        verdict("another K for the chip", papers, 5, 6);
    }

    private static void forgedReply() {
        long[] sent = Model.proof(Papers.SEED, Papers.Q, Papers.T, Papers.J);
        Papers papers = Papers.genuine(PICTURE);
        papers.replace(3, Model.sealed(Papers.SEED, sent[0] ^ 1, sent[1], sent[2]));
        verdict("another Q and T for the desk", papers, 4, 4);
        papers.replace(3, Model.sealed(Papers.SEED, sent[0] ^ 1, Model.c(A, Papers.T ^ sent[0] ^ 1), sent[2]));
        verdict("another Q for the desk", papers, 4, 4);
        papers.replace(3, Model.sealed(Papers.SEED, sent[0], sent[1] ^ 1, sent[2]));
        verdict("another T for the desk", papers, 4, 4);
        Expect.same("the chip has its session", papers.x.chip(0), 1);
        papers.replace(3, Model.sealed(Papers.SEED, sent[0], sent[1], sent[2] ^ 1));
        verdict("another J for the desk", papers, 5, 6);
        Expect.same("the chip's session is gone", papers.x.chip(0), 0);
    }

    private static void forgedCommands() {
        command("no such header", 4, 3, 3, 5, 6);
        command("header 0", 6, 0, 4 * 32, 5, 8);
        command("a header with an upper half", 4, 1 | 1L << 32, 3, 5, 6);
        command("no such file", 4, 1, 4, 5, 6);
        command("a file below", 4, 1, -1, 5, 6);
        command("a READ with nothing selected", 4, 2, 32, 5, 6);
        command("a READ of no words", 6, 2, 0, 5, 8);
        command("a READ of five words", 6, 2, 5 * 32, 5, 8);
        command("a READ behind the end", 6, 2, 1 + 4 * 32, 5, 8);
        command("a READ of fewer words", 6, 2, 3 * 32, 3, 8);
        command("a READ made a SELECT", 6, 1, 3, 3, 8);
        command("a SELECT made a READ", 8, 2, 32, 3, 10);
        command("a SELECT of a shorter file", 16, 1, 1, 5, 20);
        command("a SELECT of a longer file", 8, 1, 2, 6, 22);
        command("a SELECT of the picture for the holder", 12, 1, 2, 7, 22);
        command("the READ as it was", 14, 2, 3 * 32, 0, 22);
        command("a READ of the same again", 20, 2, 3 + 32, 7, 22);
    }

    /** Message m becomes another command with a right seal. */
    private static void command(String what, int m, long header, long number, int due, int messages) {
        Papers papers = Papers.genuine(PICTURE);
        Talk talk = Papers.talkAt(m);
        papers.replace(m, talk.sealedCommand(header, Model.c(talk.e, number) ^ talk.counter));
        verdict(what, papers, due, messages);
        Expect.same("session: " + what, papers.x.chip(0), due == 5 ? 0 : 1);
        Expect.same("commands done: " + what, papers.x.chip(7), (messages - 4) / 2 - (due == 5 ? 1 : 0));
    }

    private static void forgedAnswers() {
        Papers papers = Papers.genuine(PICTURE);
        papers.replace(5, Papers.talkAt(5).sealedAnswer(Talk.STATUS ^ 1));
        verdict("another status of a SELECT", papers, 3, 6);
        papers.replace(5, Papers.talkAt(5).sealedAnswer(Talk.STATUS | 1L << 32));
        verdict("another status above", papers, 3, 6);
        long[] answer = papers.messages().get(11);
        papers.replace(11, Papers.talkAt(11).sealedAnswer(0, answer[0]));
        verdict("another status of a READ", papers, 3, 12);
        papers.replace(7, 5, papers.messages().get(9)[1]);
        verdict("a seal of another answer", papers, 3, 8);
    }

    /** One word of a file becomes another one under a right seal. */
    private static void word(String what, int m, int i, long word, int due) {
        Papers papers = Papers.genuine(PICTURE);
        Talk talk = Papers.talkAt(m);
        long[] answer = papers.messages().get(m);
        long[] sent = java.util.Arrays.copyOf(answer, answer.length - 2);
        sent[i] = Model.c(talk.e, word ^ talk.counter);
        papers.replace(m, talk.sealedAnswer(Talk.STATUS, sent));
        verdict(what, papers, due, 22);
        if (due != 0) {
            Expect.raises("held: " + what, IllegalStateException.class, () -> papers.x.held(0, 0));
        }
    }

    private static void forgedWords() {
        long[] body = Papers.genuine(PICTURE).body(Papers.NAME);
        word("the list's word stays", 11, 0, 19, 0);
        word("another word in the list", 11, 0, 20, 6);
        word("another holder", 15, 2, 5, 7);
        word("another picture", 19, 3, 5, 7);
        word("another word at the picture's end", 21, 0, 5, 7);
        word("another digest of the holder", 7, 0, body[0] ^ 1, 7);
        word("another digest of the picture", 7, 1, body[1] ^ 1, 7);
        word("another name", 7, 2, Papers.NAME + 1, 8);
        word("another signature", 7, 3, 5, 9);
    }
}
