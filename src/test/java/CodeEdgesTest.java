/** The edges of promises 42 to 50: codes. */
public final class CodeEdgesTest {
    private static final Edges.Use EIGHT = x -> addSigns(x, 8, 99);
    private static final Edges.Use FORTY = x -> addBits(x, 40);

    public static void main(String[] args) {
        weights();
        eightSigns();
        noSign();
        costs();
        lengthsOfSigns();
        lengthsOfSameWeights();
        words();
        emptyWords();
        intervals();
        bits();
        phrasesOfShortTexts();
        phrasesOfAllLengths();
        wiping();
        Check.end();
    }

    private static Object addSigns(Entropiary x, int many, int weight) {
        for (int i = 0; i < many; i++) {
            x.sign(weight);
        }
        return null;
    }

    private static Object addBits(Entropiary x, int many) {
        for (int i = 0; i < many; i++) {
            x.bit(0);
        }
        return null;
    }

    private static Edges.Use signs(int... weights) {
        return x -> {
            for (int weight : weights) {
                x.sign(weight);
            }
            return null;
        };
    }

    private static void weights() {
        for (int i = 0; i < 8; i++) {
            int many = i;
            Edges.Use some = x -> addSigns(x, many, 50);
            Edges.range("42 weights after " + i, Edges.ARGUMENT, 1, 99, some, (x, weight) -> x.sign(weight));
            Edges.due("42 the sign " + i, i, some, x -> x.sign(99));
        }
        Edges.refused("42 weight 0 beside a word", Edges.ARGUMENT,
                Edges.after(signs(1, 2), x -> x.spell(1)), x -> x.sign(0));
    }

    private static void eightSigns() {
        for (Edges.Use state : new Edges.Use[] {EIGHT, Edges.FULL}) {
            Edges.refused("42 a ninth, the least weight", Edges.STATE, state, x -> x.sign(1));
            Edges.refused("42 a ninth, the greatest weight", Edges.STATE, state, x -> x.sign(99));
            for (int weight : new int[] {0, 100, -1, Integer.MIN_VALUE, Integer.MAX_VALUE}) {
                Edges.refused("42 a ninth, no weight", Edges.ARGUMENT, state, x -> x.sign(weight));
            }
            Edges.range("44 eight signs", Edges.INDEX, 0, 7, state, (x, sign) -> x.length(sign));
        }
        Edges.range("45 eight signs", Edges.INDEX, 0, 7, EIGHT, (x, sign) -> x.spell(sign));
        Edges.due("42 room again", 0, Edges.after(EIGHT, Entropiary::wipe), x -> x.sign(1));
        Edges.due("43 eight signs of the same weight", 99 * 8 * 3, EIGHT, Entropiary::cost);
    }

    private static void noSign() {
        Edges.Use wiped = Edges.after(Edges.FULL, Entropiary::wipe);
        for (Edges.Use state : new Edges.Use[] {Edges.NEW, wiped, FORTY}) {
            Edges.refused("43 no sign", Edges.NONE, state, Entropiary::cost);
            Edges.refused("60 no sign", Edges.NONE, state, Entropiary::meanLength);
            for (int sign : new int[] {0, 1, 7, 8, -1, Integer.MIN_VALUE, Integer.MAX_VALUE}) {
                Edges.refused("44 no sign", Edges.INDEX, state, x -> x.length(sign));
                Edges.refused("45 no sign", Edges.INDEX, state, x -> x.spell(sign));
            }
        }
    }

    private static void costs() {
        for (int weight : new int[] {1, 50, 99}) {
            Edges.due("43 one sign alone", 0, signs(weight), Entropiary::cost);
            Edges.due("44 one sign alone", 0, signs(weight), x -> x.length(0));
            Edges.due("43 two signs", weight + 1, signs(weight, 1), Entropiary::cost);
            Edges.due("44 two signs, the lower", 1, signs(weight, 1), x -> x.length(0));
            Edges.due("44 two signs, the higher", 1, signs(weight, 1), x -> x.length(1));
        }
        // Weights that double: the lengths go up to one less than there are signs.
        Edges.Use steep = signs(1, 1, 2, 4, 8, 16, 32, 64);
        Edges.due("43 the longest words", 7 + 7 + 12 + 20 + 32 + 48 + 64 + 64, steep, Entropiary::cost);
        int[] lengths = {7, 7, 6, 5, 4, 3, 2, 1};
        for (int i = 0; i < 8; i++) {
            int sign = i;
            Edges.due("44 the longest words, sign " + i, lengths[i], steep, x -> x.length(sign));
        }
    }

    private static void lengthsOfSigns() {
        for (int i = 1; i <= 8; i++) {
            int many = i;
            Edges.Use some = x -> addSigns(x, many, many);
            Edges.range("44 signs of " + i, Edges.INDEX, 0, i - 1, some, (x, sign) -> x.length(sign));
            Edges.range("45 signs of " + i, Edges.INDEX, 0, i - 1, some, (x, sign) -> x.spell(sign));
            int least = 31 - Integer.numberOfLeadingZeros(i);
            int longer = 2 * (i - (1 << least));
            Edges.due("43 signs of the same weight: " + i, i * (i * least + longer), some, Entropiary::cost);
            for (int j = 0; j < i; j++) {
                int sign = j;
                Edges.due("44 sign " + j + " of " + i, j < longer ? least + 1 : least, some, x -> x.length(sign));
            }
        }
    }

    /** Of several groups of least weight those with the lowest signs are joined. */
    private static void lengthsOfSameWeights() {
        lengths("three of the same", signs(1, 1, 1), 2, 2, 1);
        lengths("the group and a single sign", signs(2, 1, 1), 1, 2, 2);
        lengths("a group known by its lowest sign", signs(1, 2, 1, 2), 3, 2, 3, 1);
        lengths("a group of a high sign", signs(2, 2, 1, 1), 2, 2, 2, 2);
        lengths("a group between", signs(2, 1, 2, 1), 2, 3, 1, 3);
        lengths("the group is the lowest", signs(1, 1, 2, 2), 3, 3, 2, 1);
        lengths("the group is the last", signs(3, 3, 3, 1, 2), 2, 2, 2, 3, 3);
        lengths("the group is the first", signs(1, 2, 3, 3, 3), 3, 3, 2, 2, 2);
        lengths("groups of the same weight", signs(1, 1, 1, 1, 2), 3, 3, 3, 3, 1);
    }

    private static void lengths(String name, Edges.Use state, int... due) {
        for (int i = 0; i < due.length; i++) {
            int sign = i;
            Edges.due("44 " + name + ", sign " + i, due[i], state, x -> x.length(sign));
        }
    }

    private static void words() {
        for (int i = 0; i < 6; i++) {
            int many = i;
            Edges.Use some = Edges.after(EIGHT, x -> spell(x, many));
            Edges.due("45 sign " + (i + 1) + " of the word", i + 1, some, x -> x.spell(0));
            Edges.refused("45 no sign below after " + i, Edges.INDEX, some, x -> x.spell(-1));
            Edges.refused("45 no sign above after " + i, Edges.INDEX, some, x -> x.spell(8));
        }
        for (Edges.Use full : new Edges.Use[] {Edges.FULL, Edges.after(EIGHT, x -> spell(x, 6))}) {
            for (int i = 0; i < 8; i++) {
                int sign = i;
                Edges.refused("45 a seventh", Edges.STATE, full, x -> x.spell(sign));
            }
            for (int sign : new int[] {-1, 8, Integer.MIN_VALUE, Integer.MAX_VALUE}) {
                Edges.refused("45 a seventh, no sign", Edges.INDEX, full, x -> x.spell(sign));
            }
        }
        Edges.Use one = Edges.after(signs(5), x -> spell(x, 6));
        Edges.refused("45 a seventh of one sign", Edges.STATE, one, x -> x.spell(0));
        Edges.refused("45 a seventh, no sign 1", Edges.INDEX, one, x -> x.spell(1));
    }

    private static Object spell(Entropiary x, int many) {
        for (int i = 0; i < many; i++) {
            x.spell(0);
        }
        return null;
    }

    private static void interval(String name, Edges.Use state, long low, long lowUnder, long width, long widthUnder) {
        Edges.due("46 lower end, " + name, low, state, x -> x.intervalOver(false));
        Edges.due("47 lower end, " + name, lowUnder, state, x -> x.intervalUnder(false));
        Edges.due("46 width, " + name, width, state, x -> x.intervalOver(true));
        Edges.due("47 width, " + name, widthUnder, state, x -> x.intervalUnder(true));
    }

    private static void emptyWords() {
        interval("no sign", Edges.NEW, 0, 1, 1, 1);
        interval("no word", EIGHT, 0, 1, 1, 1);
        interval("wiped", Edges.after(Edges.FULL, Entropiary::wipe), 0, 1, 1, 1);
        for (int i = 1; i < 7; i++) {
            int many = i;
            Edges.Use told = x -> {
                addSigns(x, many, 3);
                spell(x, many);
                return x.sign(1);
            };
            interval("empty by a sign more, " + i, told, 0, 1, 1, 1);
            Edges.due("45 a new word, " + i, 1, told, x -> x.spell(0));
        }
    }

    private static void intervals() {
        interval("one sign takes all", Edges.after(signs(99), x -> spell(x, 6)), 0, 1, 1, 1);
        interval("the first of two", Edges.after(signs(1, 1), x -> x.spell(0)), 0, 1, 1, 2);
        interval("the second of two", Edges.after(signs(1, 1), x -> x.spell(1)), 1, 2, 1, 2);
        interval("lowest terms", Edges.after(signs(4, 2, 6), x -> x.spell(1)), 1, 3, 1, 6);
        // Eight signs of 99 are as eight of 1: the sixth power of 8 is 262144.
        interval("six first signs", Edges.after(EIGHT, x -> spell(x, 6)), 0, 1, 1, 262144);
        Edges.Use last = Edges.after(EIGHT, x -> x.spell(7) + x.spell(7) + x.spell(7) + x.spell(7) + x.spell(7)
                + x.spell(7));
        interval("six last signs", last, 262143, 262144, 1, 262144);
        // The greatest numbers: 1 and seven times 99 have no common part with 694.
        Edges.Use large = Edges.after(signs(1, 99, 99, 99, 99, 99, 99, 99), x -> spell(x, 6));
        long whole = 694L * 694 * 694 * 694 * 694 * 694;
        interval("six of the least sign", large, 0, 1, 1, whole);
        // 791 is 7 times 113; 99 has neither.
        Edges.Use wide = Edges.after(signs(99, 99, 99, 99, 99, 99, 99, 98), x -> spell(x, 6));
        long width = 99L * 99 * 99 * 99 * 99 * 99;
        interval("six of the greatest sign", wide, 0, 1, width, 791L * 791 * 791 * 791 * 791 * 791);
    }

    private static void bits() {
        for (int i = 0; i < 40; i++) {
            int many = i;
            Edges.Use some = x -> addBits(x, many);
            Edges.due("48 a 0 after " + i, i + 1, some, x -> x.bit(0));
            Edges.due("48 a 1 after " + i, i + 1, some, x -> x.bit(1));
            Edges.due("50 bits: " + i, i, some, Entropiary::wipe);
        }
        Edges.range("48 bits, new", Edges.ARGUMENT, 0, 1, Edges.NEW, (x, bit) -> x.bit(bit));
        Edges.range("48 bits, the last", Edges.ARGUMENT, 0, 1, x -> addBits(x, 39), (x, bit) -> x.bit(bit));
        for (Edges.Use full : new Edges.Use[] {FORTY, Edges.FULL}) {
            Edges.refused("48 one more, 0", Edges.STATE, full, x -> x.bit(0));
            Edges.refused("48 one more, 1", Edges.STATE, full, x -> x.bit(1));
            for (int bit : new int[] {-1, 2, Integer.MIN_VALUE, Integer.MAX_VALUE}) {
                Edges.refused("48 one more, no bit", Edges.ARGUMENT, full, x -> x.bit(bit));
            }
        }
        Edges.due("50 forty bits", 40, FORTY, Entropiary::wipe);
        Edges.due("48 room again", 1, Edges.after(FORTY, Entropiary::wipe), x -> x.bit(1));
    }

    private static Edges.Use text(String bits) {
        return x -> {
            for (int i = 0; i < bits.length(); i++) {
                x.bit(bits.charAt(i) - '0');
            }
            return null;
        };
    }

    private static void phrasesOfShortTexts() {
        Edges.due("49 no text", 0, Edges.NEW, Entropiary::phrases);
        Edges.due("49 no text, wiped", 0, Edges.after(Edges.FULL, Entropiary::wipe), Entropiary::phrases);
        String[] texts = {"0", "1", "00", "01", "10", "11", "000", "001", "010", "011", "0010", "00100", "001001"};
        // 0; 1; 0 and what is left; 0, 1; and so on; then 0, 01 and 0; 0, 01, 00; 0, 01, 00 and 1.
        int[] due = {1, 1, 2, 2, 2, 2, 2, 2, 3, 3, 3, 3, 4};
        for (int i = 0; i < texts.length; i++) {
            Edges.due("49 " + texts[i], due[i], text(texts[i]), Entropiary::phrases);
        }
        Edges.due("49 a phrase of 0 alone is none of 00", 3, text("00001"), Entropiary::phrases);
    }

    private static void phrasesOfAllLengths() {
        // All phrases of one to three bits take 34 bits; of six more 0000 is one and 00 is left.
        String all = "01" + "00011011" + "000001010011100101110111";
        Edges.due("49 all of one to three bits", 14, text(all), Entropiary::phrases);
        Edges.due("49 one of four bits", 15, text(all + "0000"), Entropiary::phrases);
        Edges.due("49 one of four bits and what is left", 16, text(all + "000000"), Entropiary::phrases);
        StringBuilder same = new StringBuilder();
        int phrases = 0;
        int left = 0;
        for (int bits = 1; bits <= 40; bits++) {
            same.append('1');
            left++;
            if (left == phrases + 1) {
                phrases++;
                left = 0;
            }
            int due = phrases + (left > 0 ? 1 : 0);
            Edges.due("49 times 1: " + bits, due, text(same.toString()), Entropiary::phrases);
        }
    }

    private static void wiping() {
        Edges.due("50 nothing", 0, Edges.NEW, Entropiary::wipe);
        Edges.due("50 eight signs and forty bits", 48, Edges.FULL, Entropiary::wipe);
        Edges.due("50 the word does not count", 1, Edges.after(signs(3), x -> spell(x, 6)), Entropiary::wipe);
        for (int many = 1; many <= 8; many++) {
            int signs = many;
            Edges.due("50 signs: " + many, many, x -> addSigns(x, signs, 1), Entropiary::wipe);
        }
        Edges.Use wiped = Edges.after(Edges.FULL, Entropiary::wipe);
        Edges.due("50 wiped twice", 0, wiped, Entropiary::wipe);
        Edges.due("50 a sign alone then", 0, Edges.after(wiped, x -> x.sign(7)), Entropiary::cost);
        Edges.due("50 a bit alone then", 1, Edges.after(wiped, x -> x.bit(0)), Entropiary::phrases);
        Edges.due("50 a word alone then", 1, Edges.after(wiped, x -> x.sign(7)), x -> x.spell(0));
    }
}
