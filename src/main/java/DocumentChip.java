import java.util.NoSuchElementException;

/** A travel document with a chip, the desk that inspects it, and the way between them on which words may change. */
public final class DocumentChip {
    private static final int FILES = 4;
    private static final int FILE_WORDS = 20;
    private static final int LIST_FILE = 0;
    private static final int HOLDER_FILE = 1;
    private static final int PICTURE_FILE = 2;
    private static final int SIGNED_FILE = 3;
    private static final int SIGNED_BODY = 3;

    private static final int SELECT = 1;
    private static final int READ = 2;
    private static final int WORDS_PER_READ = 4;
    private static final int READ_UNIT = 32;
    private static final int STATUS = 36864;
    private static final int STATUS_AND_SEAL = 2;

    private static final int GENUINE = 0;
    private static final int DIGIT = 1;
    private static final int ACCESS = 2;
    private static final int SEALED = 3;
    private static final int STRANGER = 4;
    private static final int CHIP = 5;
    private static final int PROFILE = 6;
    private static final int DIGESTS = 7;
    private static final int SIGNER = 8;
    private static final int SIGNATURE = 9;
    private static final int HOLDER = 10;

    private static final int DONE = 0;
    private static final int NO_SESSION = 1;
    private static final int WRONG_SEAL = 2;
    private static final int NO_SUCH_HEADER = 3;
    private static final int NO_SUCH_FILE = 4;
    private static final int NO_SUCH_WORDS = 5;

    private final Chip document;
    private final Desk desk;
    private final Row proof = new Row(Access.MESSAGE_WORDS);
    private final Row proofReply = new Row(Access.MESSAGE_WORDS);
    private final Row latestAnswer = new Row(WORDS_PER_READ + STATUS_AND_SEAL);

    public DocumentChip(int number, int birth, int end) {
        document = new Chip(number, birth, end);
        desk = new Desk(document);
    }

    public long digest(long a, long b) {
        return Codes.digestOfTwo(a, b);
    }

    public long cipher(long key, long block) {
        return Codes.encipher(key, block);
    }

    public int load(int file, long word) throws IndexOutOfBoundsException, IllegalStateException {
        if (!isFile(file)) {
            throw new IndexOutOfBoundsException("no such file");
        }
        Row words = document.files[file];
        if (words.isFull()) {
            throw new IllegalStateException("the file is full");
        }
        words.add(word);
        return words.size();
    }

    public long sign(long signer) {
        return document.putSigned(signer);
    }

    public boolean print(int field, int value, int digit) throws IndexOutOfBoundsException, IllegalArgumentException {
        if (!Line.isField(field)) {
            throw new IndexOutOfBoundsException("no such field");
        }
        if (!Line.fits(field, value) || digit < 0 || digit > 9) {
            throw new IllegalArgumentException("value or digit out of range");
        }
        desk.printed.put(field, value, digit);
        return desk.printed.isRight(field);
    }

    public int check(int value, int digits) {
        if (digits < 1 || digits > 9 || value < 0) {
            return -1;
        }
        return Line.rightDigit(value, digits);
    }

    public int trust(long signer, int modulus, int exponent) throws IllegalArgumentException, IllegalStateException {
        if (modulus < 2 || exponent < 1 || exponent > Signers.LARGEST_EXPONENT) {
            throw new IllegalArgumentException("modulus or exponent out of range");
        }
        if (desk.signers.isFull()) {
            throw new IllegalStateException("four are trusted");
        }
        return desk.signers.add(signer, modulus, exponent);
    }

    public boolean draw(long t, long k, long q, long j) {
        document.setDrawn(q, j);
        return desk.setDrawn(t, k);
    }

    public int change(int m, int i, long mask) throws IllegalArgumentException, IllegalStateException {
        if (m < 0 || m > 99 || i < 0 || i > 9 || mask == 0) {
            throw new IllegalArgumentException("message, word or mask out of range");
        }
        if (desk.way.isFull()) {
            throw new IllegalStateException("three changes were told");
        }
        return desk.way.tell(m, i, mask);
    }

    public int inspect() {
        document.drop();
        latestAnswer.clear();
        desk.begin();
        int verdict = desk.printed.isAllRight() ? GENUINE : DIGIT;
        if (verdict == GENUINE) {
            verdict = desk.openChip();
        }
        if (verdict == GENUINE) {
            verdict = desk.readFiles();
        }
        if (verdict == GENUINE) {
            verdict = desk.judge();
        }
        desk.finish(verdict);
        return verdict;
    }

    public int messages() {
        return desk.way.count();
    }

    public long held(int file, int p) throws IllegalStateException, IndexOutOfBoundsException {
        if (!desk.genuine) {
            throw new IllegalStateException("the desk has no files");
        }
        if (!isFile(file) || !desk.files[file].has(p)) {
            throw new IndexOutOfBoundsException("no such file or word");
        }
        return desk.files[file].get(p);
    }

    public long challenge() {
        latestAnswer.clear();
        return document.giveChallenge();
    }

    public long prove(long a, long b, long c, long seal) throws IllegalStateException, IllegalArgumentException {
        if (!document.asked) {
            throw new IllegalStateException("no challenge is given out");
        }
        proof.clear();
        proof.add(a);
        proof.add(b);
        proof.add(c);
        proof.add(seal);
        if (!document.meet(proof, proofReply)) {
            throw new IllegalArgumentException("the chip refuses the proof");
        }
        return proofReply.last();
    }

    public int command(int header, long data, long seal) throws IllegalStateException, IllegalArgumentException,
            UnsupportedOperationException, NoSuchElementException, IndexOutOfBoundsException {
        switch (document.obey(header, data, seal, latestAnswer)) {
            case NO_SESSION:
                throw new IllegalStateException("no session");
            case WRONG_SEAL:
                throw new IllegalArgumentException("the seal is not right");
            case NO_SUCH_HEADER:
                throw new UnsupportedOperationException("no such header");
            case NO_SUCH_FILE:
                throw new NoSuchElementException("no such file, or none selected");
            case NO_SUCH_WORDS:
                throw new IndexOutOfBoundsException("no such words");
            default:
                return latestAnswer.size();
        }
    }

    public long answer(int i) {
        return latestAnswer.get(i);
    }

    public long needed(int header, long data) throws IllegalStateException {
        if (!document.session.open) {
            throw new IllegalStateException("no session");
        }
        return document.session.nextSeal(header, data);
    }

    public long hidden(long number) throws IllegalStateException {
        if (!document.session.open) {
            throw new IllegalStateException("no session");
        }
        return document.session.nextData(number);
    }

    public int chip(int what) {
        switch (what) {
            case 0:
                return document.session.open ? 1 : 0;
            case 1:
                return document.asked ? 1 : 0;
            case 2:
                return document.selected;
            case 7:
                return document.done;
            default:
                return isFile(what - 3) ? document.files[what - 3].size() : -2;
        }
    }

    private static boolean isFile(long file) {
        return file >= 0 && file < FILES;
    }

    /** The arithmetic that chip and desk share. */
    private static final class Codes {
        private static final long DIGEST_START = 2611923443488327891L;
        private static final long DIGEST_FACTOR = -7046029254386353131L;
        private static final int ROUNDS = 8;
        private static final int ROUND_FACTOR = -1640531527;
        private static final long LOWER_HALF = 0xFFFFFFFFL;

        static long digestOfTwo(long a, long b) {
            return mix(mix(DIGEST_START, a), b);
        }

        static long digestOfThree(long a, long b, long c) {
            return mix(digestOfTwo(a, b), c);
        }

        static long digestOfRow(Row row) {
            long h = DIGEST_START;
            for (int i = 0; i < row.size(); i++) {
                h = mix(h, row.get(i));
            }
            return h;
        }

        /** The number of which a signature over the signed file is the root. */
        static long signedNumber(Row signed) {
            return digestOfThree(signed.get(0), signed.get(1), signed.get(2)) >>> 1;
        }

        private static long mix(long h, long word) {
            long mixed = (h ^ word) * DIGEST_FACTOR;
            return mixed ^ (mixed >>> 29);
        }

        static long encipher(long key, long block) {
            int l = (int) (block >>> 32);
            int r = (int) block;
            for (int i = 0; i < ROUNDS; i++) {
                int next = l ^ scramble(key, i, r);
                l = r;
                r = next;
            }
            return joined(l, r);
        }

        static long decipher(long key, long block) {
            int l = (int) (block >>> 32);
            int r = (int) block;
            for (int i = ROUNDS - 1; i >= 0; i--) {
                int before = r ^ scramble(key, i, l);
                r = l;
                l = before;
            }
            return joined(l, r);
        }

        private static int scramble(long key, int i, int half) {
            int t = half + (int) (key >>> 8 * i | key << 64 - 8 * i);
            return ((t << 4 ^ t >>> 5) + t) ^ i * ROUND_FACTOR;
        }

        /** The lower half of one word above the lower half of another. */
        static long joined(long above, long below) {
            return above << 32 | below & LOWER_HALF;
        }

        static long sealOfThree(long key, long a, long b, long c) {
            return encipher(key, encipher(key, encipher(key, a) ^ b) ^ c);
        }
    }

    /** A row of words up to a bound: a file, a message, an answer. */
    private static final class Row {
        private final long[] words;
        private int size;

        Row(int bound) {
            words = new long[bound];
        }

        int size() {
            return size;
        }

        boolean isFull() {
            return size >= words.length;
        }

        boolean has(int i) {
            return i >= 0 && i < size;
        }

        long get(int i) {
            return has(i) ? words[i] : 0;
        }

        long last() {
            return get(size - 1);
        }

        void clear() {
            size = 0;
        }

        void add(long word) {
            if (!isFull()) {
                words[size] = word;
                size++;
            }
        }

        void put(int i, long word) {
            if (has(i)) {
                words[i] = word;
            }
        }
    }

    /** The three fields of a line with their check digits. */
    private static final class Line {
        private static final int FIELDS = 3;
        private static final int[] LIMITS = {1000000000, 1000000, 1000000};
        private static final int[] WIDTHS = {9, 6, 6};
        private static final int[] WEIGHTS = {7, 3, 1};

        private final int[] values = new int[FIELDS];
        private final int[] digits = new int[FIELDS];

        static boolean isField(int field) {
            return field >= 0 && field < FIELDS;
        }

        static boolean fits(int field, int value) {
            return isField(field) && value >= 0 && value < LIMITS[field];
        }

        static int rightDigit(int value, int width) {
            int sum = 0;
            int rest = value;
            for (int place = width - 1; place >= 0; place--) {
                sum += rest % 10 * WEIGHTS[place % 3];
                rest /= 10;
            }
            return sum % 10;
        }

        void put(int field, int value, int digit) {
            if (isField(field)) {
                values[field] = value;
                digits[field] = digit;
            }
        }

        void putFitting(int field, int value) {
            if (isField(field)) {
                int fitting = Math.abs(value % LIMITS[field]);
                put(field, fitting, rightDigit(fitting, WIDTHS[field]));
            }
        }

        boolean isRight(int field) {
            return isField(field) && digits[field] == rightDigit(values[field], WIDTHS[field]);
        }

        boolean isAllRight() {
            return isRight(0) && isRight(1) && isRight(2);
        }

        long word(int field) {
            return isField(field) ? values[field] * 10L + digits[field] : 0;
        }

        long seed() {
            return Codes.digestOfThree(word(0), word(1), word(2));
        }

        boolean isIn(Row holder) {
            return holder.size() == FIELDS && holder.get(0) == word(0) && holder.get(1) == word(1)
                    && holder.get(2) == word(2);
        }
    }

    /** The keys A and B of a line, and the messages 2 and 3 that they protect. */
    private static final class Access {
        private static final int MESSAGE_WORDS = 4;

        private long cipherKey;
        private long sealKey;

        void derive(long seed) {
            cipherKey = Codes.digestOfTwo(seed, 1);
            sealKey = Codes.digestOfTwo(seed, 2);
        }

        void wrap(Row message, long first, long second, long third) {
            long a = Codes.encipher(cipherKey, first);
            long b = Codes.encipher(cipherKey, second ^ a);
            long c = Codes.encipher(cipherKey, third ^ b);
            message.clear();
            message.add(a);
            message.add(b);
            message.add(c);
            message.add(Codes.sealOfThree(sealKey, a, b, c));
        }

        boolean sealHolds(Row message) {
            return message.get(3) == Codes.sealOfThree(sealKey, message.get(0), message.get(1), message.get(2));
        }

        /** The words are chained: each needs the one before as it was sent (0 before the first). */
        long find(Row message, int i) {
            return Codes.decipher(cipherKey, message.get(i)) ^ message.get(i - 1);
        }
    }

    /** One side's session: keys E and M and the counter. */
    private static final class Session {
        private boolean open;
        private long cipherKey;
        private long sealKey;
        private long counter;

        void begin(long secret, long q, long t) {
            open = true;
            cipherKey = Codes.digestOfTwo(secret, 1);
            sealKey = Codes.digestOfTwo(secret, 2);
            counter = Codes.joined(q, t);
        }

        void close() {
            open = false;
        }

        void step() {
            counter++;
        }

        long nextSeal(long header, long data) {
            return Codes.sealOfThree(sealKey, counter + 1, header, data);
        }

        long nextData(long number) {
            return Codes.encipher(cipherKey, number) ^ (counter + 1);
        }

        long find(long data) {
            return Codes.decipher(cipherKey, data ^ counter);
        }

        /** Turns plain words into the answer that is sent. */
        void wrap(Row answer) {
            step();
            for (int i = 0; i < answer.size(); i++) {
                answer.put(i, Codes.encipher(cipherKey, answer.get(i) ^ counter));
            }
            answer.add(STATUS);
            answer.add(sealOf(answer, answer.size()));
        }

        /** Whether an answer with so many words is as it should be; they are put behind the row then. */
        boolean unwrap(Row answer, int count, Row words) {
            step();
            int sealed = count + 1;
            if (answer.size() != count + STATUS_AND_SEAL || answer.get(count) != STATUS
                    || answer.get(sealed) != sealOf(answer, sealed)) {
                return false;
            }
            for (int i = 0; i < count; i++) {
                words.add(Codes.decipher(cipherKey, answer.get(i)) ^ counter);
            }
            return true;
        }

        private long sealOf(Row answer, int length) {
            long seal = Codes.encipher(sealKey, counter);
            for (int i = 0; i < length; i++) {
                seal = Codes.encipher(sealKey, seal ^ answer.get(i));
            }
            return seal;
        }
    }

    /** The chip: its files, its keys, and what it does when it is spoken to. */
    private static final class Chip {
        private static final int NONE = -1;

        private final Access access = new Access();
        private final Session session = new Session();
        private final Row[] files = new Row[FILES];
        private boolean asked;
        private long challengeWord;
        private int selected = NONE;
        private int done;
        private long q;
        private long j;

        Chip(int number, int birth, int end) {
            Line line = new Line();
            line.putFitting(0, number);
            line.putFitting(1, birth);
            line.putFitting(2, end);
            access.derive(line.seed());
            for (int file = 0; file < FILES; file++) {
                files[file] = new Row(FILE_WORDS);
            }
        }

        void setDrawn(long newQ, long newJ) {
            q = newQ;
            j = newJ;
        }

        long putSigned(long signer) {
            Row signed = files[SIGNED_FILE];
            signed.clear();
            signed.add(Codes.digestOfRow(files[HOLDER_FILE]));
            signed.add(Codes.digestOfRow(files[PICTURE_FILE]));
            signed.add(signer);
            return Codes.signedNumber(signed);
        }

        /** Session and challenge are gone. */
        void drop() {
            session.close();
            selected = NONE;
            asked = false;
        }

        /** The word is kept, for other words may be drawn before the proof comes. */
        long giveChallenge() {
            drop();
            asked = true;
            challengeWord = q;
            return challengeWord;
        }

        /** Whether a message 2 is right; the reply is message 3 then, and the session begins. */
        boolean meet(Row message, Row reply) {
            boolean right = asked && access.sealHolds(message) && access.find(message, 1) == challengeWord;
            drop();
            reply.clear();
            if (right) {
                long t = access.find(message, 0);
                long k = access.find(message, 2);
                access.wrap(reply, challengeWord, t, j);
                session.begin(k ^ j, challengeWord, t);
            }
            return right;
        }

        /** Does a command: the reply is the answer, without words at an error, the number of which is returned. */
        int obey(long header, long data, long seal, Row reply) {
            reply.clear();
            if (!session.open) {
                return refuse(NO_SESSION);
            }
            boolean sealed = seal == session.nextSeal(header, data);
            session.step();
            if (!sealed) {
                return refuse(WRONG_SEAL);
            }
            int outcome = NO_SUCH_HEADER;
            if (header == SELECT) {
                outcome = select(session.find(data));
            } else if (header == READ) {
                outcome = read(session.find(data), reply);
            }
            if (outcome != DONE) {
                return refuse(outcome);
            }
            session.wrap(reply);
            done++;
            return DONE;
        }

        private int refuse(int error) {
            drop();
            return error;
        }

        private int select(long file) {
            if (!isFile(file)) {
                return NO_SUCH_FILE;
            }
            selected = (int) file;
            return DONE;
        }

        private int read(long number, Row reply) {
            if (!isFile(selected)) {
                return NO_SUCH_FILE;
            }
            Row file = files[selected];
            long place = number & READ_UNIT - 1;
            long count = number >> 5;
            if (count < 1 || count > WORDS_PER_READ || place + count > file.size()) {
                return NO_SUCH_WORDS;
            }
            for (int i = 0; i < count; i++) {
                reply.add(file.get((int) place + i));
            }
            return DONE;
        }
    }

    /** The way between desk and chip, which counts the messages and does the changes that were told. */
    private static final class Way {
        private static final int MOST = 3;

        private final int[] atMessage = new int[MOST];
        private final int[] atWord = new int[MOST];
        private final long[] masks = new long[MOST];
        private int told;
        private int carried;

        boolean isFull() {
            return told >= MOST;
        }

        int tell(int message, int word, long mask) {
            if (!isFull()) {
                atMessage[told] = message;
                atWord[told] = word;
                masks[told] = mask;
                told++;
            }
            return told;
        }

        void begin() {
            carried = 0;
        }

        void forget() {
            told = 0;
        }

        int count() {
            return carried;
        }

        void carry(Row message) {
            for (int n = 0; n < told; n++) {
                if (atMessage[n] == carried) {
                    message.put(atWord[n], message.get(atWord[n]) ^ masks[n]);
                }
            }
            carried++;
        }
    }

    /** The signers that the desk trusts. */
    private static final class Signers {
        private static final int MOST = 4;
        private static final int LARGEST_EXPONENT = 65537;
        private static final int HIGHEST_EXPONENT_BIT = 16;

        private final long[] names = new long[MOST];
        private final int[] moduli = new int[MOST];
        private final int[] exponents = new int[MOST];
        private int count;

        boolean isFull() {
            return count >= MOST;
        }

        int add(long name, int modulus, int exponent) {
            if (!isFull()) {
                names[count] = name;
                moduli[count] = modulus;
                exponents[count] = exponent;
                count++;
            }
            return count;
        }

        /** The place of the first signer of a name, -1 if there is none. */
        int find(long name) {
            for (int i = 0; i < count; i++) {
                if (names[i] == name) {
                    return i;
                }
            }
            return -1;
        }

        boolean hasSigned(int signer, long number, long signature) {
            if (signer < 0 || signer >= count) {
                return false;
            }
            int modulus = moduli[signer];
            if (modulus < 2 || signature < 0 || signature >= modulus) {
                return false;
            }
            return power(signature, exponents[signer], modulus) == number % modulus;
        }

        /** The modulus has 31 bits, so that no product of two remainders leaves a long. */
        private static long power(long base, int exponent, int modulus) {
            long result = 1;
            for (int bit = HIGHEST_EXPONENT_BIT; bit >= 0; bit--) {
                result = result * result % modulus;
                if ((exponent >> bit & 1) == 1) {
                    result = result * base % modulus;
                }
            }
            return result;
        }
    }

    /** The desk: the print, whom it trusts, and the steps of an inspection. */
    private static final class Desk {
        private static final int[] READING_ORDER = {SIGNED_FILE, LIST_FILE, HOLDER_FILE, PICTURE_FILE};
        private static final int LIST_WORD = 19;

        private final Chip chip;
        private final Line printed = new Line();
        private final Signers signers = new Signers();
        private final Way way = new Way();
        private final Access access = new Access();
        private final Session session = new Session();
        private final Row toChip = new Row(Access.MESSAGE_WORDS);
        private final Row toDesk = new Row(WORDS_PER_READ + STATUS_AND_SEAL);
        private final Row[] files = new Row[FILES];
        private boolean genuine;
        private long t;
        private long k;

        Desk(Chip inspected) {
            chip = inspected;
            for (int file = 0; file < FILES; file++) {
                files[file] = new Row(FILE_WORDS);
            }
        }

        /** Whether these words are other than those before. */
        boolean setDrawn(long newT, long newK) {
            boolean other = t != newT || k != newK;
            t = newT;
            k = newK;
            return other;
        }

        void begin() {
            way.begin();
            for (int file = 0; file < FILES; file++) {
                files[file].clear();
            }
        }

        void finish(int verdict) {
            genuine = verdict == GENUINE;
            way.forget();
        }

        /** Messages 0 to 3: both sides prove that they know the line. */
        int openChip() {
            access.derive(printed.seed());
            toChip.clear();
            way.carry(toChip);
            toDesk.clear();
            toDesk.add(chip.giveChallenge());
            way.carry(toDesk);
            long q = toDesk.get(0);
            access.wrap(toChip, t, q, k);
            way.carry(toChip);
            boolean met = chip.meet(toChip, toDesk);
            way.carry(toDesk);
            if (!met) {
                return ACCESS;
            }
            if (!access.sealHolds(toDesk)) {
                return SEALED;
            }
            if (access.find(toDesk, 0) != q || access.find(toDesk, 1) != t) {
                return STRANGER;
            }
            session.begin(k ^ access.find(toDesk, 2), q, t);
            return GENUINE;
        }

        int readFiles() {
            for (int turn = 0; turn < FILES; turn++) {
                int file = READING_ORDER[turn];
                int size = chip.files[file].size();
                int verdict = ask(SELECT, file, 0, files[file]);
                for (int place = 0; place < size && verdict == GENUINE; place += WORDS_PER_READ) {
                    int count = Math.min(WORDS_PER_READ, size - place);
                    verdict = ask(READ, place + READ_UNIT * count, count, files[file]);
                }
                if (verdict != GENUINE) {
                    return verdict;
                }
            }
            return GENUINE;
        }

        /** Sends a command and puts the words of its answer, which should be so many, behind a row. */
        private int ask(int header, int number, int count, Row words) {
            long data = session.nextData(number);
            toChip.clear();
            toChip.add(header);
            toChip.add(data);
            toChip.add(session.nextSeal(header, data));
            session.step();
            way.carry(toChip);
            int error = chip.obey(toChip.get(0), toChip.get(1), toChip.get(2), toDesk);
            way.carry(toDesk);
            if (error != DONE) {
                return CHIP;
            }
            return session.unwrap(toDesk, count, words) ? GENUINE : SEALED;
        }

        /** What the files say, as they were read. */
        int judge() {
            Row list = files[LIST_FILE];
            Row signed = files[SIGNED_FILE];
            if (list.size() != 1 || list.get(0) != LIST_WORD || signed.size() != SIGNED_BODY + 1) {
                return PROFILE;
            }
            if (signed.get(0) != Codes.digestOfRow(files[HOLDER_FILE])
                    || signed.get(1) != Codes.digestOfRow(files[PICTURE_FILE])) {
                return DIGESTS;
            }
            int signer = signers.find(signed.get(2));
            if (signer < 0) {
                return SIGNER;
            }
            if (!signers.hasSigned(signer, Codes.signedNumber(signed), signed.get(SIGNED_BODY))) {
                return SIGNATURE;
            }
            return printed.isIn(files[HOLDER_FILE]) ? GENUINE : HOLDER;
        }
    }
}
