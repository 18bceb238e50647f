/** Promises 11 (inspect), 12 (messages) and 13 (held): the answers 0 .. 10 without changes on the way. */
public final class InspectionTest {
    private static final long[] PICTURE = {11, 22, 33, 44, 55};

    public static void main(String[] args) {
        genuine();
        sizes();
        chipAfterwards();
        digit();
        digitEndsWhatWas();
        access();
        profile();
        digests();
        signer();
        signature();
        smallModuli();
        negativeRoots();
        holder();
        heldFiles();
        Expect.finish();
    }

    private static void verdict(String what, Papers papers, int due) {
        Expect.same("inspect: " + what, papers.x.inspect(), due);
        if (due != 0) {
            Expect.raises("held after: " + what, IllegalStateException.class, () -> papers.x.held(0, 0));
        }
    }

    private static void genuine() {
        Papers papers = Papers.genuine(PICTURE);
        verdict("genuine", papers, 0);
        Expect.same("messages()", papers.x.messages(), 22);
        verdict("genuine once more", papers, 0);
        Expect.same("messages() once more", papers.x.messages(), 22);
        papers.x.draw(-1, -2, -3, -4);
        verdict("with other words drawn", papers, 0);
        papers.x.draw(Papers.T, Papers.K, -1L >>> 32, Papers.J);
        verdict("with a counter that wraps", papers, 0);
    }

    private static void sizes() {
        for (int size = 0; size <= 20; size++) {
            long[] picture = new long[size];
            for (int p = 0; p < size; p++) {
                picture[p] = Model.digest(size, p);
            }
            Papers papers = Papers.genuine(picture);
            verdict("a picture of " + size, papers, 0);
            Expect.same("messages() for " + size, papers.x.messages(), 18 + 2 * ((size + 3) / 4));
            for (int p = 0; p < size; p++) {
                Expect.same("held(2, " + p + ")", papers.x.held(2, p), picture[p]);
            }
            Expect.raises("held behind it", IndexOutOfBoundsException.class, () -> papers.x.held(2, picture.length));
        }
    }

    private static void chipAfterwards() {
        Papers papers = Papers.genuine(PICTURE);
        papers.x.challenge();
        papers.x.inspect();
        Expect.same("session afterwards", papers.x.chip(0), 1);
        Expect.same("challenge afterwards", papers.x.chip(1), 0);
        Expect.same("file selected afterwards", papers.x.chip(2), 2);
        Expect.same("commands done", papers.x.chip(7), 9);
        Talk talk = Papers.talkAt(22);
        long[] next = talk.sealedCommand(2, papers.x.hidden(4 + 32));
        Expect.same("the chip's session goes on", papers.x.command(2, next[1], next[2]), 3);
        Expect.same("with this answer", papers.x.answer(0), talk.answer(55)[0]);
        papers.x.inspect();
        Expect.same("answer after an inspection", papers.x.answer(0), 0);
        Expect.same("commands done in two inspections and one beside", papers.x.chip(7), 19);
    }

    private static void digit() {
        for (int field = 0; field < 3; field++) {
            Papers papers = Papers.genuine(PICTURE);
            papers.x.inspect();
            papers.x.print(field, (int) (Papers.LINE[field] / 10), (int) (Papers.LINE[field] + 1) % 10);
            verdict("a wrong digit in field " + field, papers, 1);
            Expect.same("messages() with DIGIT", papers.x.messages(), 0);
        }
    }

    private static void digitEndsWhatWas() {
        Papers papers = Papers.genuine(PICTURE);
        papers.x.inspect();
        long data = papers.x.hidden(1);
        papers.x.command(1, data, papers.x.needed(1, data));
        papers.x.print(0, 0, 1);
        papers.x.change(1, 0, 1);
        verdict("DIGIT", papers, 1);
        Expect.same("session after DIGIT", papers.x.chip(0), 0);
        Expect.same("file selected after DIGIT", papers.x.chip(2), -1);
        Expect.same("answer after DIGIT", papers.x.answer(0), 0);
        papers.x.print(0, Papers.NUMBER, 7);
        verdict("changes are forgotten with DIGIT too", papers, 0);
        papers.x.challenge();
        papers.x.print(0, 0, 1);
        verdict("DIGIT with a challenge", papers, 1);
        Expect.same("challenge after DIGIT", papers.x.chip(1), 0);
    }

    private static void access() {
        for (int field = 0; field < 3; field++) {
            Papers papers = Papers.genuine(PICTURE);
            papers.x.inspect();
            int value = (int) (Papers.LINE[field] / 10) + 1;
            papers.x.print(field, value, papers.x.check(value, field == 0 ? 9 : 6));
            verdict("another line in field " + field, papers, 2);
            Expect.same("messages() with ACCESS", papers.x.messages(), 4);
            Expect.same("session with ACCESS", papers.x.chip(0), 0);
            Expect.same("challenge with ACCESS", papers.x.chip(1), 0);
        }
    }

    private static void profile() {
        profileOf("no list", 6);
        profileOf("another word", 6, 18);
        profileOf("another word above", 6, 19 | 1L << 32);
        profileOf("two words", 6, 19, 19);
        profileOf("the word", 0, 19);
        Papers unsigned = Papers.genuine(PICTURE);
        unsigned.x.sign(Papers.NAME);
        verdict("a signed file of three", unsigned, 6);
        Papers longer = Papers.genuine(PICTURE);
        longer.x.load(3, 0);
        verdict("a signed file of five", longer, 6);
        Papers none = new Papers();
        none.put(0, 19);
        verdict("no signed file", none, 6);
        Expect.same("messages() of it", none.x.messages(), 14);
    }

    private static void profileOf(String what, int due, long... list) {
        Papers papers = new Papers();
        papers.put(0, list);
        papers.put(1, Papers.LINE);
        papers.put(2, PICTURE);
        papers.sign(Papers.NAME);
        verdict("the list: " + what, papers, due);
    }

    private static void digests() {
        for (int file = 1; file <= 2; file++) {
            Papers papers = Papers.genuine(PICTURE);
            papers.x.load(file, 5);
            verdict("a word more in file " + file, papers, 7);
            papers.x.load(0, 5);
            verdict("and in the list", papers, 6);
        }
        Papers swapped = new Papers();
        swapped.put(0, 19);
        swapped.put(1, Papers.LINE);
        swapped.put(3, Model.digest(), Model.digest(Papers.LINE), Papers.NAME,
                Papers.root(new long[] {Model.digest(), Model.digest(Papers.LINE), Papers.NAME}));
        verdict("digests in the wrong order", swapped, 7);
    }

    private static void signer() {
        Papers papers = Papers.genuine(PICTURE);
        papers.sign(Papers.NAME + 1);
        verdict("another name", papers, 8);
        papers.x.trust(Papers.NAME + 1, Papers.MODULUS, Papers.EXPONENT);
        verdict("which is trusted now", papers, 0);
        papers.sign(Papers.NAME | 1L << 32);
        verdict("a name that differs above", papers, 8);
        papers.sign(Papers.NAME);
        verdict("the first name again", papers, 0);
        papers.sign(0);
        verdict("name 0 when nobody of it is trusted", papers, 8);
    }

    private static void signature() {
        long[] body = Papers.genuine(PICTURE).body(Papers.NAME);
        long right = Papers.root(body);
        long[] wrong = {right + 1, right - 1, right + Papers.MODULUS, right - Papers.MODULUS, -right, Papers.MODULUS,
            -1, 0, 1, right | 1L << 32, Long.MIN_VALUE, Long.MAX_VALUE};
        for (long signature : wrong) {
            Papers papers = Papers.genuine(PICTURE);
            papers.signWith(Papers.NAME, signature);
            verdict("signature " + signature, papers, 9);
        }
        Papers papers = Papers.genuine(PICTURE);
        papers.sign(5);
        papers.x.trust(5, Papers.MODULUS, 3);
        papers.x.trust(5, Papers.MODULUS, Papers.EXPONENT);
        verdict("of several of one name the first counts", papers, 9);
        papers.sign(6);
        papers.x.trust(6, Papers.MODULUS, Papers.EXPONENT);
        verdict("the fourth signer", papers, 0);
    }

    private static void smallModuli() {
        int[] moduli = {2, 3, 5, 46337, 2147483629, Integer.MAX_VALUE};
        for (int modulus : moduli) {
            Papers papers = Papers.genuine(PICTURE);
            long rest = (Model.digest(papers.body(8)) >>> 1) % modulus;
            papers.x.trust(8, modulus, 1);
            papers.signWith(8, rest);
            verdict("exponent 1 modulo " + modulus, papers, 0);
            papers.signWith(8, rest + modulus);
            verdict("a signature that is too large for " + modulus, papers, 9);
            Papers other = Papers.genuine(PICTURE);
            long power = java.math.BigInteger.valueOf(modulus - 1).modPow(java.math.BigInteger.valueOf(65536),
                    java.math.BigInteger.valueOf(modulus)).longValue();
            other.x.trust(9, modulus, 65536);
            other.signWith(9, modulus - 1);
            boolean right = (Model.digest(other.body(9)) >>> 1) % modulus == power;
            verdict("the largest signature modulo " + modulus, other, right ? 0 : 9);
        }
    }

    /** An even power of a number below 0 is right too, and yet it is no signature. */
    private static void negativeRoots() {
        long word = 0;
        while ((Model.digest(Papers.genuine(word).body(8)) >>> 1) % 3 != 1) {
            word++;
        }
        for (int signature = -3; signature <= 3; signature++) {
            Papers papers = Papers.genuine(word);
            papers.x.trust(8, 3, 2);
            papers.signWith(8, signature);
            int due = signature == 1 || signature == 2 ? 0 : 9;
            verdict("square of " + signature + " modulo 3", papers, due);
        }
    }

    private static void holder() {
        for (int field = 0; field < 3; field++) {
            long[] line = Papers.LINE.clone();
            line[field] += 10;
            holderOf("another field " + field, 10, line);
        }
        holderOf("two words", 10, Papers.LINE[0], Papers.LINE[1]);
        holderOf("four words", 10, Papers.LINE[0], Papers.LINE[1], Papers.LINE[2], 0);
        holderOf("none", 10);
        holderOf("without digits", 10, Papers.NUMBER, Papers.BIRTH, Papers.END);
        holderOf("the line", 0, Papers.LINE);
    }

    private static void holderOf(String what, int due, long... holder) {
        Papers papers = new Papers();
        papers.put(0, 19);
        papers.put(1, holder);
        papers.put(2, PICTURE);
        papers.sign(Papers.NAME);
        verdict("the holder: " + what, papers, due);
        papers.signWith(Papers.NAME, -1);
        verdict("the signature counts before the holder: " + what, papers, 9);
    }

    private static void heldFiles() {
        Papers papers = Papers.genuine(PICTURE);
        Expect.raises("held(9, 9) before", IllegalStateException.class, () -> papers.x.held(9, 9));
        papers.x.inspect();
        for (int file = 0; file < 4; file++) {
            for (int p = 0; p < papers.files[file].length; p++) {
                Expect.same("held(" + file + ", " + p + ")", papers.x.held(file, p), papers.files[file][p]);
            }
        }
        int[][] none = {{0, 1}, {1, 3}, {2, 5}, {3, 4}, {0, -1}, {2, 20}, {-1, 0}, {4, 0}, {Integer.MIN_VALUE, 0},
            {0, Integer.MAX_VALUE}, {0, Integer.MIN_VALUE}};
        for (int[] place : none) {
            Expect.raises("held(" + place[0] + ", " + place[1] + ")", IndexOutOfBoundsException.class,
                    () -> papers.x.held(place[0], place[1]));
        }
        papers.x.load(2, 66);
        papers.x.sign(1);
        papers.x.print(0, 1, 1);
        papers.x.challenge();
        Expect.same("the desk has what it read", papers.x.held(3, 2), Papers.NAME);
        Expect.raises("and no more", IndexOutOfBoundsException.class, () -> papers.x.held(2, 5));
        Expect.same("messages() are those of the inspection", papers.x.messages(), 22);
        verdict("not genuine any more", papers, 2);
    }
}
