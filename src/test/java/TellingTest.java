/** Promises 4 (load), 5 (sign), 6 (print), 8 (trust), 9 (draw) and 10 (change). */
public final class TellingTest {
    private static final int LOW = Integer.MIN_VALUE;
    private static final int HIGH = Integer.MAX_VALUE;

    public static void main(String[] args) {
        load();
        sign();
        print();
        trust();
        draw();
        change();
        Expect.finish();
    }

    private static void load() {
        DocumentChip x = new DocumentChip(1, 2, 3);
        for (int file = 0; file < 4; file++) {
            int f = file;
            for (int n = 1; n <= 20; n++) {
                Expect.same("load of word " + n, x.load(file, n), n);
                Expect.same("chip(" + (3 + file) + ")", x.chip(3 + file), n);
            }
            Expect.raises("load of a 21st word", IllegalStateException.class, () -> x.load(f, 21));
            Expect.same("words after that", x.chip(3 + file), 20);
        }
        for (int file : new int[] {-1, 4, LOW, HIGH}) {
            Expect.raises("load(" + file + ", 1)", IndexOutOfBoundsException.class, () -> x.load(file, 1));
        }
    }

    private static void sign() {
        DocumentChip x = new DocumentChip(1, 2, 3);
        long empty = Model.digest();
        Expect.same("sign with empty files", x.sign(5), Model.digest(empty, empty, 5) >>> 1);
        Expect.same("words of the signed file", x.chip(6), 3);
        x.load(1, 11);
        x.load(2, 22);
        x.load(2, -33);
        x.load(3, 44);
        x.load(3, 55);
        Expect.same("words of it with more", x.chip(6), 5);
        long number = Model.digest(Model.digest(11), Model.digest(22, -33), -7) >>> 1;
        Expect.same("sign in place of what was there", x.sign(-7), number);
        Expect.same("words of it then", x.chip(6), 3);
        Expect.same("sign again", x.sign(-7), number);
        for (int n = 4; n <= 20; n++) {
            x.load(3, n);
        }
        Expect.same("sign over a full file", x.sign(-7), number);
        Expect.same("words after a full file", x.chip(6), 3);
        Expect.same("files 1 and 2 are as they were", x.chip(4) * 10 + x.chip(5), 12);
    }

    private static void print() {
        DocumentChip x = new DocumentChip(999999999, 999999, 0);
        Expect.same("print of the largest number", x.print(0, 999999999, x.check(999999999, 9)), true);
        Expect.same("print of the largest birth", x.print(1, 999999, x.check(999999, 6)), true);
        Expect.same("print of the smallest end", x.print(2, 0, 0), true);
        Expect.same("inspect", x.inspect(), 6);
        for (int field = 0; field < 3; field++) {
            int width = field == 0 ? 9 : 6;
            for (int digit = 0; digit < 10; digit++) {
                Expect.same("print of 254 with " + digit, x.print(field, 254, digit), x.check(254, width) == digit);
            }
        }
        Expect.same("a wrong digit is printed too", x.inspect(), 1);
        Expect.raises("print(-1, 0, 0)", IndexOutOfBoundsException.class, () -> x.print(-1, 0, 0));
        Expect.raises("print(3, -1, 10)", IndexOutOfBoundsException.class, () -> x.print(3, -1, 10));
        Expect.raises("print(large, 0, 0)", IndexOutOfBoundsException.class, () -> x.print(HIGH, 0, 0));
        int[][] wrong = {{0, 1000000000, 0}, {0, -1, 0}, {0, LOW, 0}, {1, 1000000, 0}, {1, -1, 0}, {2, 1000000, 0},
            {2, -1, 0}, {2, HIGH, 0}, {0, 0, -1}, {0, 0, 10}, {1, 0, 10}, {2, 0, -1}, {2, 0, HIGH}, {2, 0, LOW}};
        for (int[] call : wrong) {
            Expect.raises("print(" + call[0] + ", " + call[1] + ", " + call[2] + ")", IllegalArgumentException.class,
                    () -> x.print(call[0], call[1], call[2]));
        }
        refusedPrint();
    }

    private static void refusedPrint() {
        DocumentChip x = new DocumentChip(0, 0, 0);
        Expect.raises("print(1, 5, 10)", IllegalArgumentException.class, () -> x.print(1, 5, 10));
        Expect.raises("print(1, 1000000, 5)", IllegalArgumentException.class, () -> x.print(1, 1000000, 5));
        Expect.same("a print that was refused changes nothing", x.inspect(), 6);
    }

    private static void trust() {
        DocumentChip x = new DocumentChip(1, 2, 3);
        int[][] wrong = {{1, 1}, {0, 1}, {-1, 1}, {LOW, 1}, {2, 0}, {2, -1}, {2, 65538}, {2, HIGH}, {2, LOW}};
        for (int[] call : wrong) {
            Expect.raises("trust(1, " + call[0] + ", " + call[1] + ")", IllegalArgumentException.class,
                    () -> x.trust(1, call[0], call[1]));
        }
        Expect.same("trust(0, 2, 1)", x.trust(0, 2, 1), 1);
        Expect.same("trust(-1, largest, 65537)", x.trust(-1, HIGH, 65537), 2);
        Expect.same("trust of the same once more", x.trust(-1, HIGH, 65537), 3);
        Expect.same("trust of a fourth", x.trust(5, 5, 5), 4);
        Expect.raises("trust of a fifth", IllegalStateException.class, () -> x.trust(6, 5, 5));
        Expect.raises("trust of a wrong fifth", IllegalArgumentException.class, () -> x.trust(6, 1, 5));
    }

    private static void draw() {
        DocumentChip x = new DocumentChip(1, 2, 3);
        Expect.same("draw of the zeros that were there", x.draw(0, 0, 0, 0), false);
        Expect.same("draw of other words for the chip", x.draw(0, 0, 5, 6), false);
        Expect.same("challenge() then", x.challenge(), 5);
        Expect.same("draw of another T", x.draw(1, 0, 5, 6), true);
        Expect.same("draw of the same", x.draw(1, 0, 5, 6), false);
        Expect.same("draw of another K", x.draw(1, 1L << 40, 5, 6), true);
        Expect.same("draw of both others", x.draw(7, 8, 9, 10), true);
        Expect.same("draw of other words for the chip again", x.draw(7, 8, -9, -10), false);
        Expect.same("challenge() at last", x.challenge(), -9);
    }

    private static void change() {
        DocumentChip x = new DocumentChip(1, 2, 3);
        int[][] wrong = {{-1, 0, 1}, {100, 0, 1}, {LOW, 0, 1}, {HIGH, 0, 1}, {0, -1, 1}, {0, 10, 1}, {0, LOW, 1},
            {0, HIGH, 1}, {0, 0, 0}};
        for (int[] call : wrong) {
            Expect.raises("change(" + call[0] + ", " + call[1] + ", " + call[2] + ")", IllegalArgumentException.class,
                    () -> x.change(call[0], call[1], call[2]));
        }
        Expect.same("change(99, 9, -1)", x.change(99, 9, -1), 1);
        Expect.same("change(0, 0, lowest)", x.change(0, 0, Long.MIN_VALUE), 2);
        Expect.same("change(0, 0, upper half)", x.change(0, 0, 1L << 32), 3);
        Expect.raises("a fourth change", IllegalStateException.class, () -> x.change(0, 0, 1));
        Expect.raises("a wrong fourth change", IllegalArgumentException.class, () -> x.change(0, 0, 0));
        x.inspect();
        Expect.same("the first change after an inspection", x.change(0, 0, 1), 1);
    }
}
