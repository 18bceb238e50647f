import java.math.BigInteger;
import java.util.List;

/** The boundary cases of promises 11 to 13: the answers of an inspection, its messages, the files of the desk. */
public final class EdgesOfInspectionTest {
    private static final long[] PICTURE = {11, 22, 33, 44, 55};
    private static final int PRIME = Integer.MAX_VALUE;

    public static void main(String[] args) {
        firstAnswerCounts();
        chipAndSealedByTime();
        digitOfEachField();
        wordsThatThereAre();
        changesThatMeet();
        messagesThatThereAre();
        changesOfErrors();
        changesAreForgotten();
        filesOfEachSize();
        longestInspection();
        otherNumbersOfWords();
        profileOfTheList();
        profileOfTheSigned();
        digestsOfBoth();
        signatureRange();
        evenExponents();
        holderWords();
        messagesCounted();
        heldOnlyWhenGenuine();
        heldPlaces();
        heldStaysAsRead();
        beginsWithoutSessionAndChallenge();
        Expect.finish();
    }

    private static void verdict(String what, Papers papers, int due) {
        Expect.same("inspect: " + what, papers.x.inspect(), due);
    }

    private static void verdict(String what, Papers papers, int due, int messages) {
        verdict(what, papers, due);
        Expect.same("messages(): " + what, papers.x.messages(), messages);
    }

    /** "in this order; the first of these answers that holds": every set of faults, the first of which is told. */
    private static void firstAnswerCounts() {
        int[] answers = {1, 2, 3, 5, 6, 7, 8, 9, 10};
        for (int set = 0; set < 1 << answers.length; set++) {
            int due = 0;
            boolean[] faults = new boolean[11];
            for (int n = answers.length - 1; n >= 0; n--) {
                if ((set >> n & 1) == 1) {
                    faults[answers[n]] = true;
                    due = answers[n];
                }
            }
            verdict("faults " + Integer.toBinaryString(set), faulty(faults), due);
        }
    }

    private static Papers faulty(boolean[] faults) {
        Papers papers = new Papers();
        papers.put(0, faults[6] ? 20 : 19);
        papers.put(1, Papers.LINE[0], Papers.LINE[1], Papers.LINE[2] + (faults[10] ? 10 : 0));
        papers.put(2, PICTURE);
        long name = faults[8] ? 5 : Papers.NAME;
        papers.signWith(name, Papers.root(papers.body(name)) ^ (faults[9] ? 1 : 0));
        if (faults[7]) {
            papers.x.load(2, 66);
        }
        if (faults[2]) {
            papers.x.print(0, 123456780, 8);
        }
        if (faults[1]) {
            papers.x.print(1, Papers.BIRTH, 5);
        }
        if (faults[3]) {
            papers.x.change(3, 3, 1);
        }
        if (faults[5]) {
            papers.x.change(4, 2, 1);
        }
        return papers;
    }

    /** CHIP and SEALED are answered as the commands go: whatever is met first. */
    private static void chipAndSealedByTime() {
        Papers chip = Papers.genuine(PICTURE);
        chip.x.change(4, 2, 1);
        chip.x.change(5, 1, 1);
        verdict("a command and its answer", chip, 5, 6);
        chip.x.change(5, 1, 1);
        chip.x.change(6, 2, 1);
        verdict("an answer and the next command", chip, 3, 6);
        chip.x.change(3, 0, 1);
        chip.x.change(4, 0, 1);
        verdict("message 3 and the first command", chip, 3, 4);
        chip.x.change(2, 3, 1);
        chip.x.change(3, 3, 1);
        verdict("message 2 and message 3", chip, 2, 4);
        chip.x.change(1, 0, 1);
        chip.x.change(3, 3, 1);
        verdict("message 1 and message 3", chip, 2, 4);
    }

    /** "DIGIT: a check digit of the print is not right": one is enough, and no message is sent. */
    private static void digitOfEachField() {
        for (int wrong = 1; wrong < 8; wrong++) {
            Papers papers = Papers.genuine(PICTURE);
            for (int field = 0; field < 3; field++) {
                long word = Papers.LINE[field];
                if ((wrong >> field & 1) == 1) {
                    papers.x.print(field, (int) (word / 10), (int) ((word + 9) % 10));
                }
            }
            verdict("wrong digits " + wrong, papers, 1, 0);
            papers.printRight();
            verdict("right digits again", papers, 0, 22);
        }
    }

    /** "CHANGES that were told for a message and a word that it has are done": its last word, and the one behind. */
    private static void wordsThatThereAre() {
        List<long[]> messages = Papers.genuine(PICTURE).messages();
        int[] lengths = {0, 1, 4, 4, 3, 2, 3, 6, 3, 2, 3, 3, 3, 2, 3, 5, 3, 2, 3, 6, 3, 3};
        Expect.same("messages", messages.size(), lengths.length);
        for (int m = 0; m < lengths.length; m++) {
            int length = lengths[m];
            Expect.same("words of message " + m, messages.get(m).length, length);
            Papers behind = Papers.genuine(PICTURE);
            behind.x.change(m, length, -1);
            verdict("a word behind message " + m, behind, 0, 22);
            if (length > 0) {
                Papers last = Papers.genuine(PICTURE);
                last.x.change(m, length - 1, -1);
                verdict("the last word of message " + m, last, m < 3 ? 2 : m % 2 == 0 ? 5 : 3);
            }
        }
    }

    /** Several changes of one word are all done: masks that cancel leave it as it was. */
    private static void changesThatMeet() {
        Papers papers = Papers.genuine(PICTURE);
        papers.x.change(7, 0, 6);
        papers.x.change(7, 0, 5);
        papers.x.change(7, 0, 3);
        verdict("three masks that cancel", papers, 0);
        papers.x.change(7, 0, Long.MIN_VALUE);
        papers.x.change(7, 1, Long.MIN_VALUE);
        verdict("one mask for two words", papers, 3);
        papers.x.change(7, 0, 1);
        papers.x.change(9, 0, 1);
        verdict("one mask for two messages", papers, 3, 8);
    }

    /** Changes for a message that there isn't: the one behind the last. */
    private static void messagesThatThereAre() {
        Papers papers = Papers.genuine(PICTURE);
        for (int m : new int[] {22, 23, 99}) {
            for (int i : new int[] {0, 9}) {
                papers.x.change(m, i, 1);
                verdict("message " + m, papers, 0, 22);
            }
        }
        papers.x.change(21, 0, 1);
        verdict("the last message", papers, 3, 22);
    }

    /** "(An error of the chip is a message without words.)": it counts, and no change is done to it. */
    private static void changesOfErrors() {
        for (int i = 0; i < 10; i++) {
            Papers papers = Papers.genuine(PICTURE);
            papers.x.change(2, 0, 1);
            papers.x.change(3, i, 1);
            verdict("ACCESS with word " + i + " of the error", papers, 2, 4);
            papers.x.change(6, 0, 1);
            papers.x.change(7, i, 1);
            verdict("CHIP with word " + i + " of the error", papers, 5, 8);
        }
    }

    /** "changes are forgotten then": whatever the inspection came to, and whether they were done or not. */
    private static void changesAreForgotten() {
        Papers papers = Papers.genuine(PICTURE);
        papers.x.change(3, 3, 1);
        verdict("a change", papers, 3);
        verdict("no change any more", papers, 0);
        papers.x.change(4, 0, 1);
        papers.x.print(2, Papers.END, 0);
        verdict("a change that DIGIT came before", papers, 1);
        papers.printRight();
        verdict("it is forgotten, too", papers, 0);
        papers.x.change(2, 0, 1);
        papers.x.change(21, 0, 1);
        verdict("a change that ACCESS came before", papers, 2);
        Expect.same("the first change is the first again", papers.x.change(99, 0, 1), 1);
        verdict("both are forgotten", papers, 0);
    }

    /** "four words at a time are read (fewer at the end), as many as it has (.. not at all, if it has none)" */
    private static void filesOfEachSize() {
        for (int file = 0; file < 4; file++) {
            for (int size = 0; size <= 20; size++) {
                Papers papers = new Papers();
                for (int p = 0; p < size; p++) {
                    papers.put(file, Model.digest(p, file));
                }
                int messages = 12 + 2 * ((size + 3) / 4);
                Expect.same("foretold messages", papers.messages().size(), messages);
                verdict(size + " words in file " + file, papers, 6, messages);
                Expect.same("commands done", papers.x.chip(7), (messages - 4) / 2);
                int last = messages - 1;
                papers.x.change(last, papers.messages().get(last).length - 1, 1);
                verdict("the last seal damaged", papers, 3, messages);
            }
        }
    }

    private static void longestInspection() {
        Papers papers = new Papers();
        for (int file = 0; file < 4; file++) {
            for (int p = 0; p < 20; p++) {
                papers.put(file, p);
            }
        }
        verdict("four full files", papers, 6, 52);
        papers.x.change(51, 5, 1);
        verdict("the last word of the last message", papers, 3, 52);
        papers.x.change(51, 6, 1);
        papers.x.change(52, 0, 1);
        verdict("a word and a message behind", papers, 6, 52);
    }

    /** "or it has not as many words as were asked for (for a SELECT none)": one fewer and one more. */
    private static void otherNumbersOfWords() {
        forged("READ of three for four", 6, 2, 3 * 32, 3, 8);
        forged("READ of four for four, from the same place", 6, 2, 4 * 32, 0, 22);
        forged("READ of two for three", 14, 2, 2 * 32, 3, 16);
        forged("READ of three for three", 14, 2, 3 * 32, 0, 22);
        forged("READ of four for three, which there are not", 14, 2, 4 * 32, 5, 16);
        forged("READ of two for one", 20, 2, 3 + 2 * 32, 3, 22);
        forged("READ of four for one", 20, 2, 1 + 4 * 32, 3, 22);
        forged("READ of one for one, from another place", 20, 2, 3 + 32, 7, 22);
        forged("READ of the place behind", 20, 2, 5 + 32, 5, 22);
        forged("SELECT for a READ", 20, 1, 2, 3, 22);
        forged("READ for a SELECT", 16, 2, 32, 3, 18);
        forged("SELECT of file 4", 16, 1, 4, 5, 18);
        forged("SELECT with an upper half in the header", 16, 1 + (1L << 32), 2, 5, 18);
        forged("READ with an upper half in the header", 20, 2 + (1L << 32), 4 + 32, 5, 22);
        forged("header 0", 16, 0, 2, 5, 18);
        forged("header 3", 16, 3, 2, 5, 18);
    }

    /** A command becomes another one under a right seal. */
    private static void forged(String what, int m, long header, long number, int due, int messages) {
        Papers papers = Papers.genuine(PICTURE);
        Talk talk = Papers.talkAt(m);
        papers.replace(m, talk.sealedCommand(header, Model.c(talk.e, number) ^ talk.counter));
        verdict(what, papers, due, messages);
        Expect.same("session: " + what, papers.x.chip(0), due == 5 ? 0 : 1);
    }

    /** "PROFILE: the list is not the one word 19" */
    private static void profileOfTheList() {
        list("none", 6);
        list("19", 0, 19);
        list("18", 6, 18);
        list("20", 6, 20);
        list("-19", 6, -19);
        list("0", 6, 0);
        list("19 below", 6, 19 + (1L << 32));
        list("19 and 0", 6, 19, 0);
        list("19 and 19", 6, 19, 19);
        list("0 and 19", 6, 0, 19);
        list("five words", 6, 19, 19, 19, 19, 19);
    }

    private static void list(String what, int due, long... words) {
        Papers papers = new Papers();
        papers.put(0, words);
        papers.put(1, Papers.LINE);
        papers.put(2, PICTURE);
        papers.sign(Papers.NAME);
        verdict("the list " + what, papers, due);
    }

    /** "or the signed file has not four words": one fewer and one more. */
    private static void profileOfTheSigned() {
        for (int size = 0; size <= 20; size++) {
            Papers papers = new Papers();
            papers.put(0, 19);
            papers.put(1, Papers.LINE);
            long[] body = papers.body(Papers.NAME);
            for (int p = 0; p < size; p++) {
                papers.put(3, p < 3 ? body[p] : p == 3 ? Papers.root(body) : 0);
            }
            verdict("a signed file of " + size, papers, size == 4 ? 0 : 6);
        }
    }

    /** "DIGESTS: one of both is not the digest of the file as it was read" */
    private static void digestsOfBoth() {
        for (int wrong = 0; wrong < 4; wrong++) {
            for (int bit : new int[] {0, 31, 32, 63}) {
                Papers papers = Papers.genuine(PICTURE);
                long[] body = papers.body(Papers.NAME);
                body[0] ^= (wrong & 1) == 1 ? 1L << bit : 0;
                body[1] ^= (wrong & 2) == 2 ? 1L << bit : 0;
                Papers other = new Papers();
                other.put(0, 19);
                other.put(1, Papers.LINE);
                other.put(2, PICTURE);
                other.put(3, body);
                other.put(3, Papers.root(body));
                verdict("wrong digests " + wrong, other, wrong == 0 ? 0 : 7);
            }
        }
        verdict("an empty picture has a digest", Papers.genuine(), 0);
        Papers later = Papers.genuine();
        later.x.load(2, 0);
        verdict("a word 0 is a word", later, 7);
    }

    /** "the signature is not 0 .. m - 1": with exponent 1 all that is equal modulo m would do otherwise. */
    private static void signatureRange() {
        for (int modulus : new int[] {2, 3, 5, 7, 11}) {
            for (int rest : new int[] {0, modulus - 1}) {
                long word = wordWithRest(modulus, rest);
                for (long signature : new long[] {0, modulus - 1, modulus, -1, rest + modulus, rest - modulus,
                    rest + (1L << 32) * modulus, Long.MAX_VALUE, Long.MIN_VALUE}) {
                    Papers papers = Papers.genuine(word);
                    papers.x.trust(8, modulus, 1);
                    papers.signWith(8, signature);
                    verdict(signature + " for " + rest + " modulo " + modulus, papers, signature == rest ? 0 : 9);
                }
            }
        }
    }

    /** A picture of one word for which the signed number has this rest. */
    private static long wordWithRest(int modulus, int rest) {
        long word = 0;
        while ((Model.digest(Papers.genuine(word).body(8)) >>> 1) % modulus != rest) {
            word++;
        }
        return word;
    }

    /** "or its e-th power modulo m is not ..": exponents of one bit, the highest of which is 65536. */
    private static void evenExponents() {
        BigInteger prime = BigInteger.valueOf(PRIME);
        BigInteger half = BigInteger.valueOf((PRIME - 1) / 2);
        long word = 0;
        BigInteger number = signedNumber(word);
        while (!number.modPow(half, prime).equals(BigInteger.ONE)) {
            word++;
            number = signedNumber(word);
        }
        BigInteger root = number.mod(prime);
        for (int exponent = 2; exponent <= 65536; exponent *= 2) {
            root = root.modPow(BigInteger.valueOf((PRIME + 1L) / 4), prime);
            for (long signature : new long[] {root.longValue(), PRIME - root.longValue()}) {
                Papers papers = Papers.genuine(word);
                papers.x.trust(8, PRIME, exponent);
                papers.signWith(8, signature);
                verdict("a root of " + exponent, papers, 0);
                papers.signWith(8, signature - PRIME);
                verdict("a root of " + exponent + " below 0", papers, 9);
                papers.signWith(8, signature + 1);
                verdict("beside a root of " + exponent, papers, 9);
            }
        }
    }

    private static BigInteger signedNumber(long word) {
        return BigInteger.valueOf(Model.digest(Papers.genuine(word).body(8)) >>> 1);
    }

    /** "HOLDER: the holder file is not the three words .. of the print" */
    private static void holderWords() {
        long[] line = Papers.LINE;
        holder("none", 10);
        holder("the first two", 10, line[0], line[1]);
        holder("all three", 0, line);
        holder("one more", 10, line[0], line[1], line[2], 0);
        holder("the first twice", 10, line[0], line[0], line[1], line[2]);
        for (int field = 0; field < 3; field++) {
            for (long mask : new long[] {1, 1L << 32, 1L << 63}) {
                long[] other = line.clone();
                other[field] ^= mask;
                holder("field " + field + " xor " + mask, 10, other);
            }
        }
        holder("fields in another order", 10, line[0], line[2], line[1]);
    }

    private static void holder(String what, int due, long... words) {
        Papers papers = new Papers();
        papers.put(0, 19);
        papers.put(1, words);
        papers.put(2, PICTURE);
        papers.sign(Papers.NAME);
        verdict("the holder: " + what, papers, due);
    }

    /** "How many messages the latest inspection had (none with DIGIT); 0 when there was none." */
    private static void messagesCounted() {
        Papers papers = Papers.genuine(PICTURE);
        papers.x.change(0, 0, 1);
        Guest.welcome(papers).select(0);
        Expect.same("messages() before an inspection", papers.x.messages(), 0);
        verdict("genuine", papers, 0, 22);
        papers.x.print(0, 0, 1);
        verdict("DIGIT after 22", papers, 1, 0);
        papers.x.print(0, 0, 0);
        verdict("ACCESS", papers, 2, 4);
        papers.printRight();
        papers.x.change(5, 0, 1);
        verdict("the first answer", papers, 3, 6);
        papers.x.change(20, 0, 1);
        verdict("the last command", papers, 5, 22);
        papers.x.challenge();
        papers.x.load(2, 6);
        Expect.same("messages() are those of the latest inspection", papers.x.messages(), 22);
    }

    /** "IllegalStateException when the latest inspection was not GENUINE, or there was none", for any place. */
    private static void heldOnlyWhenGenuine() {
        Papers papers = Papers.genuine(PICTURE);
        holdsNothing("before an inspection", papers);
        boolean[] none = new boolean[11];
        for (int fault : new int[] {1, 2, 3, 5, 6, 7, 8, 9, 10}) {
            boolean[] faults = none.clone();
            faults[fault] = true;
            Papers wrong = faulty(faults);
            verdict("fault " + fault, wrong, fault);
            holdsNothing("after answer " + fault, wrong);
        }
        Papers stranger = Papers.genuine(PICTURE);
        long[] reply = Model.proof(Papers.SEED, Papers.Q, Papers.T ^ 1, Papers.J);
        stranger.replace(3, Model.sealed(Papers.SEED, reply));
        verdict("a stranger", stranger, 4, 4);
        holdsNothing("after answer 4", stranger);
        verdict("genuine", papers, 0);
        Expect.same("held(0, 0)", papers.x.held(0, 0), 19);
        papers.x.change(21, 0, 1);
        verdict("all but the last message right", papers, 3, 22);
        holdsNothing("after GENUINE and SEALED", papers);
        verdict("genuine again", papers, 0);
        Expect.same("held(0, 0) again", papers.x.held(0, 0), 19);
        papers.x.print(0, 0, 1);
        verdict("DIGIT", papers, 1);
        holdsNothing("after GENUINE and DIGIT", papers);
    }

    private static void holdsNothing(String what, Papers papers) {
        for (int[] place : new int[][] {{0, 0}, {3, 3}, {0, 20}, {4, 0}, {-1, -1}}) {
            Expect.raises("held(" + place[0] + ", " + place[1] + ") " + what, IllegalStateException.class,
                    () -> papers.x.held(place[0], place[1]));
        }
    }

    /** "IndexOutOfBoundsException when there is no such file or word": the last word, and the one behind. */
    private static void heldPlaces() {
        for (int size : new int[] {0, 1, 4, 5, 19, 20}) {
            long[] picture = new long[size];
            for (int p = 0; p < size; p++) {
                picture[p] = Model.digest(p, size);
            }
            Papers papers = Papers.genuine(picture);
            verdict("genuine", papers, 0);
            for (int file = 0; file < 4; file++) {
                int length = papers.files[file].length;
                for (int p = 0; p < length; p++) {
                    Expect.same("held(" + file + ", " + p + ")", papers.x.held(file, p), papers.files[file][p]);
                }
                for (int p : new int[] {length, length + 1, 20, 21, -1, Integer.MAX_VALUE, Integer.MIN_VALUE}) {
                    if (p < 0 || p >= length) {
                        noSuchPlace(papers, file, p);
                    }
                }
            }
            for (int file : new int[] {-1, 4, Integer.MAX_VALUE, Integer.MIN_VALUE}) {
                noSuchPlace(papers, file, 0);
            }
        }
    }

    private static void noSuchPlace(Papers papers, int file, int p) {
        Expect.raises("held(" + file + ", " + p + ")", IndexOutOfBoundsException.class, () -> papers.x.held(file, p));
    }

    /** The desk has the files that were read, whatever becomes of the chip's. */
    private static void heldStaysAsRead() {
        Papers papers = Papers.genuine(PICTURE);
        verdict("genuine", papers, 0);
        papers.x.load(2, 66);
        papers.x.load(0, 20);
        papers.x.sign(1);
        papers.x.print(0, 0, 1);
        papers.x.draw(1, 2, 3, 4);
        papers.x.change(0, 0, 1);
        papers.x.challenge();
        Expect.raises("prove", IllegalArgumentException.class, () -> papers.x.prove(1, 2, 3, 4));
        Expect.raises("command", IllegalStateException.class, () -> papers.x.command(1, 2, 3));
        for (int file = 0; file < 4; file++) {
            for (int p = 0; p < papers.files[file].length; p++) {
                Expect.same("held(" + file + ", " + p + ")", papers.x.held(file, p), papers.files[file][p]);
            }
            noSuchPlace(papers, file, papers.files[file].length);
        }
    }

    /** "(The chip begins without session and challenge ..)", also where no message is sent. */
    private static void beginsWithoutSessionAndChallenge() {
        Guest guest = Guest.welcome(Papers.genuine(PICTURE));
        guest.select(1);
        guest.x.print(0, 0, 1);
        verdict("DIGIT in a session", guest.papers, 1, 0);
        Guest.state("DIGIT in a session", guest.x, 0, 0, -1);
        Guest.answerIs("DIGIT in a session", guest.x);
        guest.x.challenge();
        verdict("DIGIT with a challenge", guest.papers, 1, 0);
        Guest.state("DIGIT with a challenge", guest.x, 0, 0, -1);
        guest.x.print(0, 0, 0);
        guest.x.challenge();
        verdict("ACCESS with a challenge", guest.papers, 2, 4);
        Guest.state("ACCESS with a challenge", guest.x, 0, 0, -1);
        guest.papers.printRight();
        guest.x.challenge();
        verdict("genuine with a challenge", guest.papers, 0, 22);
        Guest.state("genuine with a challenge", guest.x, 1, 0, 2);
    }
}
