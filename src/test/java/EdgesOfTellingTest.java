import java.math.BigInteger;

/** The boundary cases of promises 1 to 10: what is told to the object before anybody inspects. */
public final class EdgesOfTellingTest {
    private static final int LOW = Integer.MIN_VALUE;
    private static final int HIGH = Integer.MAX_VALUE;
    private static final long[] PICTURE = {11, 22, 33, 44, 55};

    public static void main(String[] args) {
        numbersMadeFit();
        nothingAtFirst();
        loadOfFiles();
        loadBeyondTwenty();
        signInPlaceOfAnything();
        printOfFields();
        printOfValues();
        printOfDigits();
        refusedPrintLeavesTheOld();
        checkOfDigits();
        checkOfValues();
        trustOfModuli();
        trustOfExponents();
        trustOfFour();
        refusedSignerIsNotTrusted();
        firstOfOneName();
        drawAtFirst();
        drawOfOtherWords();
        changeOfMessages();
        changeOfWords();
        changeOfMasks();
        changeOfThree();
        refusedChangeIsNotDone();
        Expect.finish();
    }

    /** "each made fit by taking its remainder (.., without a minus)" */
    private static void numbersMadeFit() {
        int[][] numbers = {{0, 0}, {999999999, 999999999}, {1000000000, 0}, {1000000001, 1}, {1999999999, 999999999},
            {2000000000, 0}, {HIGH, 147483647}, {-1, 1}, {-999999999, 999999999}, {-1000000000, 0}, {-1000000001, 1},
            {LOW, 147483648}, {LOW + 1, 147483647}};
        for (int[] pair : numbers) {
            opens(new DocumentChip(pair[0], 5, 6), pair[1], 5, 6);
        }
        int[][] dates = {{0, 0}, {999999, 999999}, {1000000, 0}, {1000001, 1}, {1999999, 999999}, {999999999, 999999},
            {1000000000, 0}, {HIGH, 483647}, {-1, 1}, {-999999, 999999}, {-1000000, 0}, {-1000001, 1}, {LOW, 483648}};
        for (int[] pair : dates) {
            opens(new DocumentChip(4, pair[0], 6), 4, pair[1], 6);
            opens(new DocumentChip(4, 5, pair[0]), 4, 5, pair[1]);
        }
    }

    /** The chip has this line: its print opens it (PROFILE, for the files are empty), and one beside it does not. */
    private static void opens(DocumentChip x, int number, int birth, int end) {
        String what = number + " " + birth + " " + end;
        printAll(x, number, birth, end);
        Expect.same("inspect with the line " + what, x.inspect(), 6);
        printAll(x, number ^ 1, birth, end);
        Expect.same("inspect beside the number of " + what, x.inspect(), 2);
        printAll(x, number, birth, (end + 1) % 1000000);
        Expect.same("inspect beside the end of " + what, x.inspect(), 2);
        printAll(x, number, (birth + 1) % 1000000, end);
        Expect.same("inspect beside the birth of " + what, x.inspect(), 2);
    }

    private static void printAll(DocumentChip x, int number, int birth, int end) {
        x.print(0, number, x.check(number, 9));
        x.print(1, birth, x.check(birth, 6));
        x.print(2, end, x.check(end, 6));
    }

    /** "and empty files; a print of zeros; nobody trusted; no changes" */
    private static void nothingAtFirst() {
        DocumentChip zeros = new DocumentChip(0, 0, 0);
        for (int what = 3; what <= 6; what++) {
            Expect.same("chip(" + what + ")", zeros.chip(what), 0);
        }
        Expect.same("a print of zeros opens a line of zeros", zeros.inspect(), 6);
        Expect.same("messages with empty files", zeros.messages(), 12);
        for (int field = 0; field < 3; field++) {
            DocumentChip one = new DocumentChip(field == 0 ? 1 : 0, field == 1 ? 1 : 0, field == 2 ? 1 : 0);
            Expect.same("a print of zeros opens no other line", one.inspect(), 2);
        }
        zeros.load(0, 19);
        zeros.load(1, 0);
        zeros.load(1, 0);
        zeros.load(1, 0);
        zeros.sign(0);
        zeros.load(3, 0);
        Expect.same("nobody is trusted, not even name 0", zeros.inspect(), 8);
    }

    /** "Throws IndexOutOfBoundsException when there is no such file" */
    private static void loadOfFiles() {
        DocumentChip x = new DocumentChip(1, 2, 3);
        Expect.same("load of the first file", x.load(0, 5), 1);
        Expect.same("load of the last file", x.load(3, 5), 1);
        for (int file : new int[] {-1, 4, 5, 20, HIGH, LOW}) {
            Expect.raises("load(" + file + ")", IndexOutOfBoundsException.class, () -> x.load(file, 5));
        }
        for (int file = 0; file < 4; file++) {
            Expect.same("words of file " + file, x.chip(3 + file), file == 0 || file == 3 ? 1 : 0);
        }
    }

    /** "IllegalStateException when it has 20. Answers how many it has." */
    private static void loadBeyondTwenty() {
        for (int file = 0; file < 4; file++) {
            int f = file;
            Papers papers = new Papers();
            for (int n = 1; n <= 20; n++) {
                Expect.same("load of word " + n, papers.x.load(file, 100 + n), n);
            }
            for (int n = 0; n < 3; n++) {
                Expect.raises("load of one more", IllegalStateException.class, () -> papers.x.load(f, 0));
                Expect.same("words then", papers.x.chip(3 + file), 20);
            }
            Guest guest = Guest.welcome(papers);
            guest.select(file);
            Expect.same("the last word is what it was", guest.send(2, 19 + 32), 3);
            Guest.answerIs("it", papers.x, guest.talk.answer(120));
        }
    }

    /** "(in place of what is there)": of nothing, of fewer words, of more, of as many as there can be. */
    private static void signInPlaceOfAnything() {
        for (int size = 0; size <= 20; size++) {
            Papers papers = new Papers();
            papers.put(1, 7);
            for (int n = 0; n < size; n++) {
                papers.x.load(3, 900 + n);
            }
            Expect.same("sign over " + size, papers.x.sign(-9), Model.digest(papers.body(-9)) >>> 1);
            Expect.same("words then", papers.x.chip(6), 3);
            Expect.same("load then", papers.x.load(3, 5), 4);
            Guest guest = Guest.welcome(papers);
            guest.select(3);
            guest.send(2, 4 * 32);
            Guest.answerIs("signed over " + size, papers.x,
                    guest.talk.answer(Model.digest(7), Model.digest(), -9, 5));
        }
    }

    /** "Throws IndexOutOfBoundsException when there is no such field", whatever the value and the digit. */
    private static void printOfFields() {
        DocumentChip x = new DocumentChip(0, 0, 0);
        Expect.same("print of the first field", x.print(0, 0, 0), true);
        Expect.same("print of the last field", x.print(2, 0, 0), true);
        for (int field : new int[] {-1, 3, 4, HIGH, LOW}) {
            Expect.raises("print(" + field + ", 0, 0)", IndexOutOfBoundsException.class, () -> x.print(field, 0, 0));
            Expect.raises("print(" + field + ", -1, 0)", IndexOutOfBoundsException.class,
                    () -> x.print(field, -1, 0));
            Expect.raises("print(" + field + ", 0, 10)", IndexOutOfBoundsException.class,
                    () -> x.print(field, 0, 10));
        }
    }

    /** "IllegalArgumentException when value .. is out of its range": another range for each field. */
    private static void printOfValues() {
        int[] largest = {999999999, 999999, 999999};
        int[] rightDigits = {7, 8, 8};
        DocumentChip x = new DocumentChip(largest[0], largest[1], largest[2]);
        for (int field = 0; field < 3; field++) {
            int f = field;
            Expect.same("print of 0", x.print(field, 0, 0), true);
            Expect.same("print of the largest", x.print(field, largest[field], rightDigits[field]), true);
            for (int value : new int[] {-1, largest[field] + 1, HIGH, LOW, -largest[field]}) {
                Expect.raises("print(" + field + ", " + value + ")", IllegalArgumentException.class,
                        () -> x.print(f, value, 0));
            }
        }
        Expect.same("the largest line opens the chip", x.inspect(), 6);
    }

    /** "or digit is out of its range" */
    private static void printOfDigits() {
        for (int field = 0; field < 3; field++) {
            int f = field;
            DocumentChip x = new DocumentChip(0, 0, 0);
            for (int digit = 0; digit <= 9; digit++) {
                Expect.same("print with digit " + digit, x.print(field, 0, digit), digit == 0);
                Expect.same("inspect with digit " + digit, x.inspect(), digit == 0 ? 6 : 1);
            }
            Expect.same("print of a field whose right digit is 9", x.print(field, 9, 9), true);
            for (int digit : new int[] {-1, 10, 11, HIGH, LOW}) {
                Expect.raises("print with digit " + digit, IllegalArgumentException.class,
                        () -> x.print(f, 0, digit));
            }
        }
    }

    private static void refusedPrintLeavesTheOld() {
        for (int field = 0; field < 3; field++) {
            int f = field;
            Papers papers = Papers.genuine(PICTURE);
            Expect.raises("print of a digit too large", IllegalArgumentException.class, () -> papers.x.print(f, 5, 10));
            Expect.raises("print of a value too large", IllegalArgumentException.class,
                    () -> papers.x.print(f, 1000000000, 5));
            Expect.raises("print of a field behind", IndexOutOfBoundsException.class, () -> papers.x.print(3, 5, 5));
            Expect.same("inspect with the old print", papers.x.inspect(), 0);
        }
    }

    /** "-1 when digits is not 1 .. 9" */
    private static void checkOfDigits() {
        DocumentChip x = new DocumentChip(1, 2, 3);
        Expect.same("check of one digit", x.check(123456789, 1), 3);
        Expect.same("check of nine digits", x.check(123456789, 9), 7);
        for (int digits : new int[] {0, 10, -1, 11, HIGH, LOW}) {
            Expect.same("check of digits " + digits, x.check(123456789, digits), -1);
            Expect.same("check of 0 with digits " + digits, x.check(0, digits), -1);
        }
    }

    /** "or value is below 0"; "its lowest ones, with zeros in front" */
    private static void checkOfValues() {
        DocumentChip x = new DocumentChip(1, 2, 3);
        for (int digits = 1; digits <= 9; digits++) {
            Expect.same("check of 0", x.check(0, digits), 0);
            Expect.same("check of -1", x.check(-1, digits), -1);
            Expect.same("check of the lowest", x.check(LOW, digits), -1);
            Expect.same("check of the largest", x.check(HIGH, digits),
                    Model.checkDigit("147483647".substring(9 - digits)));
            Expect.same("one digit more than are looked at", x.check((int) Math.pow(10, digits), digits), 0);
            Expect.same("the first digit that is looked at", x.check((int) Math.pow(10, digits - 1), digits), 7);
            Expect.same("the last digit", x.check(1, digits), new int[] {7, 3, 1}[(digits - 1) % 3]);
        }
        Expect.same("check of nine digits below ten", x.check(1999999999, 9), x.check(999999999, 9));
    }

    private static void refusesSigner(DocumentChip x, int modulus, int exponent) {
        Expect.raises("trust(5, " + modulus + ", " + exponent + ")", IllegalArgumentException.class,
                () -> x.trust(5, modulus, exponent));
    }

    /** "when modulus is not 2 .. 2147483647": the smallest and the largest are of use, too. */
    private static void trustOfModuli() {
        DocumentChip x = new DocumentChip(1, 2, 3);
        for (int modulus : new int[] {1, 0, -1, -2, LOW, LOW + 1}) {
            refusesSigner(x, modulus, 1);
        }
        Expect.same("trust of modulus 2", x.trust(5, 2, 1), 1);
        Expect.same("trust of the largest modulus", x.trust(5, HIGH, 1), 2);
        Papers small = Papers.genuine(PICTURE);
        small.x.trust(8, 2, 3);
        small.signWith(8, (Model.digest(small.body(8)) >>> 1) % 2);
        Expect.same("a signature modulo 2", small.x.inspect(), 0);
        for (int exponent : new int[] {1, 5, 65537}) {
            Papers large = Papers.genuine(PICTURE);
            large.x.trust(8, HIGH, exponent);
            large.signWith(8, rootOfPrime(Model.digest(large.body(8)) >>> 1, exponent));
            Expect.same("a root of " + exponent + " modulo the largest", large.x.inspect(), 0);
        }
    }

    /** The largest int is a prime. */
    private static long rootOfPrime(long number, int exponent) {
        BigInteger prime = BigInteger.valueOf(HIGH);
        BigInteger inverse = BigInteger.valueOf(exponent).modInverse(prime.subtract(BigInteger.ONE));
        return BigInteger.valueOf(number).modPow(inverse, prime).longValueExact();
    }

    /** "or exponent not 1 .. 65537" */
    private static void trustOfExponents() {
        DocumentChip x = new DocumentChip(1, 2, 3);
        for (int exponent : new int[] {0, -1, 65538, 131074, HIGH, LOW}) {
            refusesSigner(x, 2, exponent);
            refusesSigner(x, HIGH, exponent);
        }
        Expect.same("trust of exponent 1", x.trust(5, 5, 1), 1);
        Expect.same("trust of exponent 65537", x.trust(5, 5, 65537), 2);
        Papers papers = Papers.genuine(PICTURE);
        papers.x.trust(8, Papers.MODULUS, 1);
        long rest = (Model.digest(papers.body(8)) >>> 1) % Papers.MODULUS;
        papers.signWith(8, rest);
        Expect.same("with exponent 1 the number itself signs", papers.x.inspect(), 0);
        papers.signWith(8, rest - 1);
        Expect.same("and none beside it", papers.x.inspect(), 9);
    }

    /** "IllegalStateException when there are four"; a wrong modulus or exponent is named before. */
    private static void trustOfFour() {
        Papers papers = new Papers();
        for (int n = 2; n <= 4; n++) {
            Expect.same("trust of signer " + n, papers.x.trust(n, Papers.MODULUS, Papers.EXPONENT), n);
        }
        Expect.raises("trust of a fifth", IllegalStateException.class,
                () -> papers.x.trust(5, Papers.MODULUS, Papers.EXPONENT));
        Expect.raises("trust of one that is there", IllegalStateException.class,
                () -> papers.x.trust(4, Papers.MODULUS, Papers.EXPONENT));
        refusesSigner(papers.x, 1, 1);
        refusesSigner(papers.x, 2, 0);
        refusesSigner(papers.x, 2, 65538);
        papers.filled(PICTURE);
        for (long name : new long[] {Papers.NAME, 2, 3, 4, 5, 0}) {
            papers.sign(name);
            Expect.same("inspect with signer " + name, papers.x.inspect(), name == 5 || name == 0 ? 8 : 0);
        }
    }

    private static void refusedSignerIsNotTrusted() {
        Papers papers = Papers.genuine(PICTURE);
        refusesSigner(papers.x, 1, 1);
        refusesSigner(papers.x, 5, 65538);
        papers.sign(5);
        Expect.same("inspect with a signer that was refused", papers.x.inspect(), 8);
        Expect.same("the next one is the second", papers.x.trust(5, Papers.MODULUS, Papers.EXPONENT), 2);
        Expect.same("inspect with the signer trusted at last", papers.x.inspect(), 0);
    }

    /** "(Of several of one name the first one counts.)" */
    private static void firstOfOneName() {
        Papers right = Papers.genuine(PICTURE);
        right.x.trust(Papers.NAME, 5, 5);
        Expect.same("the first is right, the second not", right.x.inspect(), 0);
        Papers wrong = Papers.genuine(PICTURE);
        wrong.x.trust(8, Papers.MODULUS, 3);
        wrong.x.trust(8, Papers.MODULUS, Papers.EXPONENT);
        wrong.x.trust(8, Papers.MODULUS, Papers.EXPONENT);
        wrong.sign(8);
        Expect.same("the first is not right, the others are", wrong.x.inspect(), 9);
    }

    /** "0 at first" */
    private static void drawAtFirst() {
        DocumentChip x = new DocumentChip(0, 0, 0);
        Expect.same("challenge()", x.challenge(), 0);
        long seed = Model.digest(0, 0, 0);
        long[] proof = Model.proof(seed, 7, 0, 9);
        Expect.same("J is 0", x.prove(proof[0], proof[1], proof[2], proof[3]), Model.proof(seed, 0, 7, 0)[3]);
        Expect.same("inspect with zeros drawn", x.inspect(), 6);
        Talk talk = new Talk(0, 0, 0, 0);
        talk.counter += 8;
        Expect.same("Q, T, K and J are 0 in it", x.hidden(1), talk.command(1, 1)[1]);
        Expect.same("draw of zeros", x.draw(0, 0, 0, 0), false);
    }

    /** "Answers whether the desk's two are other than before." */
    private static void drawOfOtherWords() {
        DocumentChip x = new DocumentChip(0, 0, 0);
        Expect.same("another T", x.draw(1, 0, 0, 0), true);
        Expect.same("the same", x.draw(1, 0, 0, 0), false);
        Expect.same("another K", x.draw(1, 1, 0, 0), true);
        Expect.same("another T above", x.draw(1 + (1L << 32), 1, 0, 0), true);
        Expect.same("another K above", x.draw(1 + (1L << 32), 1 + (1L << 63), 0, 0), true);
        Expect.same("another Q and J", x.draw(1 + (1L << 32), 1 + (1L << 63), 5, 6), false);
        Expect.same("the two change places", x.draw(1 + (1L << 63), 1 + (1L << 32), 5, 6), true);
        Expect.same("as at first", x.draw(0, 0, 5, 6), true);
        Expect.same("a draw does not go by the sum", x.draw(1, -1, 5, 6), true);
    }

    private static void refusesChange(DocumentChip x, int m, int i, long mask) {
        Expect.raises("change(" + m + ", " + i + ", " + mask + ")", IllegalArgumentException.class,
                () -> x.change(m, i, mask));
    }

    /** "when m is not 0 .. 99" */
    private static void changeOfMessages() {
        DocumentChip x = new DocumentChip(1, 2, 3);
        for (int m : new int[] {-1, 100, 101, HIGH, LOW}) {
            refusesChange(x, m, 0, 1);
        }
        Expect.same("change of message 0", x.change(0, 0, 1), 1);
        Expect.same("change of message 99", x.change(99, 0, 1), 2);
    }

    /** "i not 0 .. 9" */
    private static void changeOfWords() {
        DocumentChip x = new DocumentChip(1, 2, 3);
        for (int i : new int[] {-1, 10, 11, HIGH, LOW}) {
            refusesChange(x, 0, i, 1);
        }
        Expect.same("change of word 0", x.change(0, 0, 1), 1);
        Expect.same("change of word 9", x.change(0, 9, 1), 2);
    }

    /** "or mask is 0": any other word is one. */
    private static void changeOfMasks() {
        for (int bit = 0; bit < 64; bit++) {
            Papers papers = Papers.genuine(PICTURE);
            refusesChange(papers.x, 3, 3, 0);
            Expect.same("change of bit " + bit, papers.x.change(3, 3, 1L << bit), 1);
            Expect.same("inspect with bit " + bit, papers.x.inspect(), 3);
        }
    }

    /** "IllegalStateException when three changes were told"; wrong arguments are named before. */
    private static void changeOfThree() {
        Papers papers = Papers.genuine(PICTURE);
        for (int round = 0; round < 3; round++) {
            for (int n = 1; n <= 3; n++) {
                Expect.same("change number " + n, papers.x.change(90 + n, 0, 1), n);
            }
            Expect.raises("a fourth change", IllegalStateException.class, () -> papers.x.change(3, 3, 1));
            refusesChange(papers.x, 100, 0, 1);
            refusesChange(papers.x, 0, 10, 1);
            refusesChange(papers.x, 0, 0, 0);
            Expect.same("the fourth is not done", papers.x.inspect(), 0);
        }
    }

    private static void refusedChangeIsNotDone() {
        Papers papers = Papers.genuine(PICTURE);
        refusesChange(papers.x, 3, 10, 1);
        refusesChange(papers.x, 103, 3, 1);
        refusesChange(papers.x, 3, 3, 0);
        Expect.same("inspect after changes that were refused", papers.x.inspect(), 0);
        Expect.same("none was told", papers.x.change(3, 3, 1), 1);
        refusesChange(papers.x, -1, 0, 1);
        Expect.same("the one that was told is done", papers.x.inspect(), 3);
    }
}
