/** Promises 42 to 50: codes. */
public final class CodesTest {
    public static void main(String[] args) {
        signs();
        lengths();
        intervals();
        texts();
        wiping();
        Check.end();
    }

    private static void signs() {
        Entropiary x = new Entropiary();
        Check.none("43 no sign", x::cost);
        Check.argument("42 weight 0", () -> x.sign(0));
        Check.argument("42 weight 100", () -> x.sign(100));
        Check.due("42 the first", 0, () -> x.sign(99));
        Check.due("43 one sign", 0, x::cost);
        Check.due("42 the second", 1, () -> x.sign(1));
        Check.due("43 two signs", 100, x::cost);
        for (int i = 2; i < 8; i++) {
            int number = i;
            Check.due("42 sign " + number, number, () -> x.sign(1));
        }
        Check.state("42 a ninth", () -> x.sign(1));
        Check.argument("42 a ninth, out of range", () -> x.sign(0));
        Check.due("43 eight signs", 106 + 20, x::cost);
    }

    private static void lengths() {
        Entropiary x = new Entropiary();
        Check.index("44 no sign", () -> x.length(0));
        x.sign(2);
        Check.due("44 one sign", 0, () -> x.length(0));
        x.sign(1);
        x.sign(1);
        x.sign(2);
        // The signs 1 and 2 weigh 2 together, as 0 and 3 do; the lowest signs 0 and 1 are joined, then 3.
        Check.due("44 sign 0", 2, () -> x.length(0));
        Check.due("44 sign 1", 3, () -> x.length(1));
        Check.due("44 sign 2", 3, () -> x.length(2));
        Check.due("44 sign 3", 1, () -> x.length(3));
        Check.due("43 cost", 12, x::cost);
        Check.index("44 sign 4", () -> x.length(4));
        Check.index("44 sign -1", () -> x.length(-1));
    }

    private static void intervals() {
        Entropiary x = new Entropiary();
        check(x, "empty word, no sign", 0, 1, 1, 1);
        Check.index("45 no sign", () -> x.spell(0));
        x.sign(2);
        x.sign(6);
        x.sign(4);
        Check.due("45 spell(1)", 1, () -> x.spell(1));
        check(x, "1", 1, 6, 1, 2);
        Check.due("45 spell(2)", 2, () -> x.spell(2));
        check(x, "1 2", 1, 2, 1, 6);
        Check.index("45 sign 3", () -> x.spell(3));
        Check.index("45 sign -1", () -> x.spell(-1));
        check(x, "1 2 still", 1, 2, 1, 6);
        x.sign(1);
        check(x, "empty word", 0, 1, 1, 1);
        Check.due("45 a new word", 1, () -> x.spell(0));
        check(x, "0", 0, 1, 2, 13);
        Entropiary y = new Entropiary();
        for (int i = 0; i < 7; i++) {
            y.sign(99);
        }
        y.sign(98);
        for (int i = 1; i <= 6; i++) {
            int many = i;
            Check.due("45 the last sign", many, () -> y.spell(7));
        }
        Check.state("45 a seventh", () -> y.spell(0));
        Check.index("45 a seventh, no sign", () -> y.spell(8));
        long whole = 791L * 791 * 791 * 791 * 791 * 791;
        long width = 98L * 98 * 98 * 98 * 98 * 98;
        // 791 is 7 times 113, and 98 is twice 49; so 7 to the power of 6 goes.
        long common = 7L * 7 * 7 * 7 * 7 * 7;
        check(y, "six times the last", (whole - width) / common, whole / common, width / common, whole / common);
        Check.argument("42 refused", () -> y.sign(100));
        Check.due("42 the word stays", width / common, () -> y.intervalOver(true));
        Check.state("42 too many", () -> y.sign(1));
        Check.due("42 the word still stays", width / common, () -> y.intervalOver(true));
    }

    private static void check(Entropiary x, String word, long lowOver, long lowUnder, long wideOver, long wideUnder) {
        Check.due("46 lower end, " + word, lowOver, () -> x.intervalOver(false));
        Check.due("47 lower end, " + word, lowUnder, () -> x.intervalUnder(false));
        Check.due("46 width, " + word, wideOver, () -> x.intervalOver(true));
        Check.due("47 width, " + word, wideUnder, () -> x.intervalUnder(true));
    }

    private static void texts() {
        Entropiary x = new Entropiary();
        Check.due("49 no text", 0, x::phrases);
        Check.argument("48 bit(2)", () -> x.bit(2));
        Check.argument("48 bit(-1)", () -> x.bit(-1));
        int[] due = {1, 2, 2, 3, 3, 3, 4, 4, 4, 4, 5};
        for (int i = 0; i < 40; i++) {
            int count = i + 1;
            Check.due("48 bit " + count, count, () -> x.bit(0));
            if (i < due.length) {
                Check.due("49 " + count + " times 0", due[i], x::phrases);
            }
        }
        // 1 and 2 up to 8 are 36 bits; four are left.
        Check.due("49 forty times 0", 9, x::phrases);
        Check.state("48 one more", () -> x.bit(0));
        Check.argument("48 one more, out of range", () -> x.bit(2));
        x.wipe();
        int[] bits = {0, 0, 1, 0, 0, 0, 1, 1, 1};
        // The phrases are 0, 01, 00, 011 and 1.
        int[] phrases = {1, 2, 2, 3, 3, 4, 4, 4, 5};
        for (int i = 0; i < bits.length; i++) {
            int at = i;
            x.bit(bits[i]);
            Check.due("49 after " + i, phrases[at], x::phrases);
        }
    }

    private static void wiping() {
        Entropiary x = new Entropiary();
        Check.due("50 nothing", 0, x::wipe);
        x.sign(4);
        x.sign(4);
        x.spell(1);
        x.bit(1);
        Check.due("50 two signs and a bit", 3, x::wipe);
        Check.due("50 again", 0, x::wipe);
        Check.none("50 no sign", x::cost);
        Check.due("50 no phrase", 0, x::phrases);
        check(x, "wiped", 0, 1, 1, 1);
        Check.due("50 numbers from 0", 0, () -> x.sign(3));
        Check.due("50 bits from 1", 1, () -> x.bit(0));
    }
}
