/** The edges of promises 31 to 41: secrets. */
public final class SecretEdgesTest {
    private static final int[] PRIMES = {2, 3, 5, 7, 11, 13};

    /** Ten rows and ten allowed sets by 13, nothing dealt. */
    private static final Edges.Use UNDEALT = x -> {
        x.scheme(13);
        for (int row = 0; row < 10; row++) {
            x.share(row % 5, 28560 - row);
        }
        for (int i = 1; i <= 10; i++) {
            x.allow(i);
        }
        return null;
    };

    /** A row of 0 to each party but the last, which has the secret itself; by 5, dealt. */
    private static final Edges.Use LAST = x -> {
        x.scheme(5);
        for (int party = 0; party < 4; party++) {
            x.share(party, 0);
        }
        x.share(4, 125);
        return x.deal(4, 0);
    };

    /** Dealt without rows. */
    private static final Edges.Use NO_ROWS = x -> x.scheme(3) + x.deal(2, 7);

    /** All states, those in which nothing is dealt first. */
    private static final Edges.Use[] STATES = {Edges.NEW, UNDEALT, Edges.FULL, LAST, NO_ROWS};
    private static final int UNDEALT_STATES = 2;

    public static void main(String[] args) {
        primes();
        places();
        tenRows();
        setsThatOpen();
        setsThatAreAllowed();
        misfits();
        secretsAndSeeds();
        draws();
        whatUndoesDealing();
        nothingDealt();
        sharesThatAreNot();
        agreeing();
        opening();
        Check.end();
    }

    private static void primes() {
        int[] none = {Integer.MIN_VALUE, -13, -2, -1, 0, 1, 4, 6, 8, 9, 10, 12, 14, 15, 16, 17, 19, Integer.MAX_VALUE};
        for (Edges.Use state : STATES) {
            for (int number : none) {
                Edges.refused("31 scheme(" + number + ")", Edges.ARGUMENT, state, x -> x.scheme(number));
            }
        }
        for (int prime : PRIMES) {
            Edges.due("31 no rows before " + prime, 0, Edges.NEW, x -> x.scheme(prime));
            Edges.due("31 ten rows before " + prime, 10, UNDEALT, x -> x.scheme(prime));
            Edges.Use anew = Edges.after(Edges.FULL, x -> x.scheme(prime));
            Edges.due("31 no rows then", 0, anew, x -> x.scheme(2));
            Edges.due("31 rows are numbered from 0 then", 0, anew, x -> x.share(4, 1));
            Edges.due("31 no allowed sets then", false, anew, x -> x.isAllowed(31));
            Edges.due("31 room for allowed sets then", 1, anew, x -> x.allow(31));
            Edges.refused("31 nothing is dealt then", Edges.STATE, anew, x -> x.agree(0));
            Edges.due("31 no share in the sum then", sumOfFullTable(), anew, Entropiary::checksum);
            Edges.refused("31 the prime of vectors is another one", Edges.ARGUMENT,
                    x -> x.scheme(prime), x -> x.vector(0, 16));
        }
    }

    private static long sumOfFullTable() {
        int[] weights = {3, 0, 1, 0, 0, 0, 2, 5, 0};
        long sum = 0;
        for (int weight : weights) {
            sum = 31 * sum + weight;
        }
        return sum;
    }

    private static void places() {
        for (int prime : PRIMES) {
            int last = prime * prime * prime * prime - 1;
            Edges.Use begun = x -> x.scheme(prime);
            Edges.range("32 places by " + prime, Edges.ARGUMENT, 0, last, begun, (x, places) -> x.share(4, places));
            Edges.range("32 parties by " + prime, Edges.INDEX, 0, 4, begun, (x, party) -> x.share(party, last));
            Edges.refused("32 no party below, places below", Edges.INDEX, begun, x -> x.share(-1, -1));
            Edges.refused("32 no party above, places above", Edges.INDEX, begun, x -> x.share(5, last + 1));
            // The last places are all one less than the prime, that is -1: the share is -(secret + draws).
            Edges.Use dealt = Edges.after(begun, x -> x.share(0, last) + x.deal(prime - 1, 0));
            Edges.due("32 each of the last places by " + prime, shareOfLast(prime), dealt, x -> x.shareAt(0));
            Edges.due("32 the first places by " + prime, 0,
                    Edges.after(begun, x -> x.share(0, 0) + x.deal(prime - 1, 99999)), x -> x.shareAt(0));
        }
    }

    private static int shareOfLast(int prime) {
        int sum = prime - 1;
        long z = 0;
        for (int draw = 0; draw < 3; draw++) {
            z = (z * 1103515245L + 12345L) % 2147483648L;
            sum += (int) (z / 65536L % prime);
        }
        return sum * (prime - 1) % prime;
    }

    private static void tenRows() {
        for (int i = 0; i < 10; i++) {
            int many = i;
            Edges.Use some = x -> addRows(x, many);
            Edges.due("32 the row " + i, i, some, x -> x.share(many % 5, 15));
            Edges.due("31 rows: " + i, i, some, x -> x.scheme(5));
            Edges.due("37 shares: " + i, i, some, x -> x.deal(1, 99999));
            Edges.Use dealt = Edges.after(some, x -> x.deal(1, 99999));
            Edges.refused("38 no row " + i, Edges.INDEX, dealt, x -> x.shareAt(many));
            Edges.refused("39 no row " + i, Edges.INDEX, dealt, x -> x.lie(many, 0));
        }
        for (Edges.Use full : new Edges.Use[] {UNDEALT, Edges.FULL}) {
            for (int i = 0; i < 5; i++) {
                int party = i;
                Edges.refused("32 an eleventh of " + i, Edges.STATE, full, x -> x.share(party, 0));
                Edges.refused("32 an eleventh, the last places", Edges.STATE, full, x -> x.share(party, 28560));
                Edges.refused("32 an eleventh, below", Edges.ARGUMENT, full, x -> x.share(party, -1));
                Edges.refused("32 an eleventh, above", Edges.ARGUMENT, full, x -> x.share(party, 28561));
            }
            Edges.refused("32 an eleventh, no party below", Edges.INDEX, full, x -> x.share(-1, 0));
            Edges.refused("32 an eleventh, no party above", Edges.INDEX, full, x -> x.share(5, 28561));
        }
        Edges.due("32 room again", 0, Edges.after(UNDEALT, x -> x.scheme(2)), x -> x.share(0, 15));
    }

    private static Object addRows(Entropiary x, int many) {
        for (int row = 0; row < many; row++) {
            x.share(row % 5, row);
        }
        return null;
    }

    private static void setsThatOpen() {
        for (Edges.Use state : STATES) {
            Edges.range("33 sets", Edges.ARGUMENT, 0, 31, state, (x, set) -> x.opens(set));
            Edges.due("33 no parties", false, state, x -> x.opens(0));
        }
        for (int i = 0; i < 32; i++) {
            int set = i;
            Edges.due("33 no rows", false, Edges.NEW, x -> x.opens(set));
            Edges.due("33 the last party alone has it: " + i, i >= 16, LAST, x -> x.opens(set));
            Edges.due("33 no row is the secret: " + i, false, SecretEdgesTest::shareAllButSecret, x -> x.opens(set));
        }
        for (int prime : PRIMES) {
            int whole = prime * prime * prime;
            Edges.Use multiple = x -> x.scheme(prime) + x.share(0, (prime - 1) * whole);
            Edges.due("33 a multiple by " + prime, true, multiple, x -> x.opens(1));
            Edges.Use beside = x -> x.scheme(prime) + x.share(0, whole + 1);
            Edges.due("33 one more in the last place", false, beside, x -> x.opens(1));
            Edges.due("33 and that taken off", true, Edges.after(beside, x -> x.share(0, prime - 1)), x -> x.opens(1));
        }
    }

    private static Object shareAllButSecret(Entropiary x) {
        return x.share(0, 4) + x.share(1, 2) + x.share(2, 1) + x.share(3, 7) + x.share(4, 0);
    }

    private static void setsThatAreAllowed() {
        for (Edges.Use state : STATES) {
            Edges.range("35 sets", Edges.ARGUMENT, 0, 31, state, (x, set) -> x.isAllowed(set));
            Edges.due("35 no parties", false, state, x -> x.isAllowed(0));
        }
        for (Edges.Use state : new Edges.Use[] {Edges.NEW, LAST, NO_ROWS}) {
            Edges.range("34 sets", Edges.ARGUMENT, 1, 31, state, (x, set) -> x.allow(set));
        }
        for (int i = 0; i < 10; i++) {
            int many = i;
            Edges.Use some = x -> {
                for (int set = 1; set <= many; set++) {
                    x.allow(set);
                }
                return null;
            };
            Edges.due("34 another set after " + i, i + 1, some, x -> x.allow(31));
            Edges.due("34 the same set after " + i, i + 1, some, x -> x.allow(1));
        }
        for (Edges.Use full : new Edges.Use[] {UNDEALT, Edges.FULL}) {
            Edges.refused("34 an eleventh", Edges.STATE, full, x -> x.allow(31));
            Edges.refused("34 an eleventh, the same", Edges.STATE, full, x -> x.allow(3));
            for (int set : new int[] {0, 32, -1, Integer.MIN_VALUE, Integer.MAX_VALUE}) {
                Edges.refused("34 an eleventh, no set", Edges.ARGUMENT, full, x -> x.allow(set));
            }
        }
        for (int i = 1; i < 32; i++) {
            int told = i;
            for (int j = 0; j < 32; j++) {
                int set = j;
                Edges.due("35 " + j + " by " + i, (i & j) == i, x -> x.allow(told), x -> x.isAllowed(set));
            }
        }
        Edges.Use ten = Edges.after(SecretEdgesTest::tellNine, x -> x.allow(16));
        Edges.due("35 the tenth counts", true, ten, x -> x.isAllowed(16));
        Edges.due("35 none is told", false, Edges.NEW, x -> x.isAllowed(31));
    }

    private static Object tellNine(Entropiary x) {
        for (int i = 0; i < 9; i++) {
            x.allow(15);
        }
        return null;
    }

    private static void misfits() {
        Edges.refused("36 nothing opens, nothing is allowed", Edges.NONE, Edges.NEW, Entropiary::misfit);
        Edges.refused("36 no rows", Edges.NONE, NO_ROWS, Entropiary::misfit);
        for (int i = 1; i < 32; i++) {
            int set = i;
            Edges.due("36 allowed, does not open", i, x -> x.allow(set), Entropiary::misfit);
        }
        for (int i = 0; i < 5; i++) {
            int party = i;
            Edges.Use one = x -> x.share(party, 8);
            Edges.due("36 opens, not allowed", 1 << i, one, Entropiary::misfit);
            Edges.Use allowed = Edges.after(one, x -> x.allow(1 << party));
            Edges.refused("36 opens and is allowed", Edges.NONE, allowed, Entropiary::misfit);
            Edges.Use less = Edges.after(one, x -> x.allow(31));
            Edges.due("36 more is allowed", 1 << i, less, Entropiary::misfit);
        }
        Edges.Use all = x -> x.share(0, 12) + x.share(1, 6) + x.share(2, 3) + x.share(3, 1);
        Edges.due("36 the set of all four", 15, all, Entropiary::misfit);
        Edges.refused("36 the set of all four is allowed", Edges.NONE, Edges.after(all, x -> x.allow(15)),
                Entropiary::misfit);
        // 9 and 1 have the secret, as have 10 and 2.
        Edges.Use pairs = x -> x.share(0, 9) + x.share(1, 1) + x.share(2, 10) + x.share(3, 2);
        Edges.due("36 the lowest of many", 3, pairs, Entropiary::misfit);
        Edges.due("36 the lowest that is left", 12, Edges.after(pairs, x -> x.allow(3)), Entropiary::misfit);
        Edges.due("36 the lowest, the other way", 1, Edges.after(pairs, x -> x.allow(1)), Entropiary::misfit);
        Edges.Use last = x -> x.share(0, 0) + x.allow(31);
        Edges.due("36 the last set", 31, last, Entropiary::misfit);
    }

    private static void secretsAndSeeds() {
        for (int prime : PRIMES) {
            int last = prime - 1;
            Edges.Use begun = x -> x.scheme(prime) + x.share(3, prime * prime * prime);
            Edges.range("37 secrets by " + prime, Edges.ARGUMENT, 0, last, begun, (x, secret) -> x.deal(secret, 0));
            Edges.Use dealt = Edges.after(begun, x -> x.deal(1, 1));
            Edges.range("37 secrets anew", Edges.ARGUMENT, 0, last, dealt, (x, secret) -> x.deal(secret, 99999));
            Edges.due("41 the least secret", 0, Edges.after(begun, x -> x.deal(0, 99999)), x -> x.open(8));
            Edges.due("41 the greatest secret", last, Edges.after(begun, x -> x.deal(last, 0)), x -> x.open(31));
            Edges.range("39 shares by " + prime, Edges.ARGUMENT, 0, last, dealt, (x, share) -> x.lie(0, share));
        }
        for (Edges.Use state : STATES) {
            Edges.range("37 seeds", Edges.ARGUMENT, 0, 99999, state, (x, seed) -> x.deal(1, seed));
            Edges.refused("37 secret and seed below", Edges.ARGUMENT, state, x -> x.deal(-1, -1));
            Edges.refused("37 secret and seed above", Edges.ARGUMENT, state, x -> x.deal(13, 100000));
        }
        Edges.due("37 without rows", 0, Edges.NEW, x -> x.deal(0, 0));
        Edges.due("37 ten rows", 10, UNDEALT, x -> x.deal(0, 0));
        Edges.due("37 in place of all before", 10, Edges.FULL, x -> x.deal(0, 0));
    }

    private static void draws() {
        int[] seeds = {0, 1, 12345, 65535, 65536, 99998, 99999};
        for (int prime : PRIMES) {
            for (int seed : seeds) {
                Edges.Use dealt = x -> x.scheme(prime) + x.share(0, prime * prime) + x.share(1, prime) + x.share(2, 1)
                        + x.deal(1, seed);
                long z = seed;
                for (int i = 0; i < 3; i++) {
                    int row = i;
                    z = Math.floorMod(z * 1103515245L + 12345L, 2147483648L);
                    int due = (int) (z / 65536L % prime);
                    Edges.due("37 draw " + i + " by " + prime + " from " + seed, due, dealt, x -> x.shareAt(row));
                }
                Edges.Use lied = Edges.after(dealt, x -> x.lie(2, (x.shareAt(2) + 1) % prime));
                Edges.due("37 dealt again is told truly", (int) (z / 65536L % prime),
                        Edges.after(lied, x -> x.deal(1, seed)), x -> x.shareAt(2));
            }
        }
    }

    private static void whatUndoesDealing() {
        Edges.refused("32 a row more", Edges.STATE, Edges.after(LAST, x -> x.share(0, 1)), x -> x.shareAt(0));
        Edges.refused("32 a row of 0 more", Edges.STATE, Edges.after(LAST, x -> x.share(0, 0)), x -> x.agree(0));
        Edges.refused("31 the same prime", Edges.STATE, Edges.after(LAST, x -> x.scheme(5)), x -> x.shareAt(0));
        Edges.refused("31 another prime", Edges.STATE, Edges.after(LAST, x -> x.scheme(13)), x -> x.open(16));
        Edges.refused("31 without rows", Edges.STATE, Edges.after(NO_ROWS, x -> x.scheme(3)), x -> x.agree(0));
        Edges.due("34 an allowed set more leaves it", 4, Edges.after(LAST, x -> x.allow(1)), x -> x.shareAt(4));
        Edges.due("18 the prime of vectors leaves it", 4, Edges.after(LAST, x -> x.prime(5)), x -> x.shareAt(4));
        Edges.due("2 a table leaves it", 4, Edges.after(LAST, x -> x.table(1, 2)), x -> x.shareAt(4));
        Edges.due("50 wiping leaves it", 4, Edges.after(LAST, Entropiary::wipe), x -> x.shareAt(4));
        Edges.due("37 dealt again", 6, Edges.after(LAST, x -> x.share(0, 0)), x -> x.deal(4, 0));
    }

    private static void nothingDealt() {
        for (int i = 0; i < UNDEALT_STATES; i++) {
            Edges.Use state = STATES[i];
            for (int number : new int[] {0, 1, 9, 10, 31, -1, 32, Integer.MIN_VALUE, Integer.MAX_VALUE}) {
                Edges.refused("38 nothing is dealt", Edges.STATE, state, x -> x.shareAt(number));
                Edges.refused("39 nothing is dealt, row", Edges.STATE, state, x -> x.lie(number, 0));
                Edges.refused("39 nothing is dealt, share", Edges.STATE, state, x -> x.lie(0, number));
                Edges.refused("39 nothing is dealt, both", Edges.STATE, state, x -> x.lie(number, number));
                Edges.refused("40 nothing is dealt", Edges.STATE, state, x -> x.agree(number));
                Edges.refused("41 nothing is dealt", Edges.STATE, state, x -> x.open(number));
            }
        }
    }

    private static void sharesThatAreNot() {
        Edges.range("38 ten rows", Edges.INDEX, 0, 9, Edges.FULL, (x, row) -> x.shareAt(row));
        Edges.range("39 ten rows", Edges.INDEX, 0, 9, Edges.FULL, (x, row) -> x.lie(row, 12));
        Edges.range("38 five rows", Edges.INDEX, 0, 4, LAST, (x, row) -> x.shareAt(row));
        Edges.range("39 five rows", Edges.INDEX, 0, 4, LAST, (x, row) -> x.lie(row, 4));
        for (int row : new int[] {0, -1, 10, Integer.MIN_VALUE, Integer.MAX_VALUE}) {
            Edges.refused("38 without rows", Edges.INDEX, NO_ROWS, x -> x.shareAt(row));
            Edges.refused("39 without rows", Edges.INDEX, NO_ROWS, x -> x.lie(row, 0));
            Edges.refused("39 without rows, no share", Edges.INDEX, NO_ROWS, x -> x.lie(row, 3));
        }
        Edges.refused("39 no row below, share below", Edges.INDEX, LAST, x -> x.lie(-1, -1));
        Edges.refused("39 no row above, share above", Edges.INDEX, LAST, x -> x.lie(5, 5));
        Edges.refused("39 no row, share there", Edges.INDEX, LAST, x -> x.lie(5, 4));
        Edges.range("39 shares of the last row", Edges.ARGUMENT, 0, 4, LAST, (x, share) -> x.lie(4, share));
        Edges.due("39 the share before", 4, LAST, x -> x.lie(4, 0));
        Edges.due("39 told falsely before", 0, Edges.after(LAST, x -> x.lie(4, 0)), x -> x.lie(4, 4));
        Edges.due("38 told falsely", 0, Edges.after(LAST, x -> x.lie(4, 0)), x -> x.shareAt(4));
        Edges.due("39 the same share", 4, Edges.after(LAST, x -> x.lie(4, 4)), x -> x.shareAt(4));
        Edges.due("39 no other share", 0, Edges.after(LAST, x -> x.lie(4, 0)), x -> x.shareAt(3));
    }

    private static void agreeing() {
        for (Edges.Use state : new Edges.Use[] {Edges.FULL, LAST, NO_ROWS}) {
            Edges.range("40 sets", Edges.ARGUMENT, 0, 31, state, (x, set) -> x.agree(set));
            Edges.due("40 no parties", true, state, x -> x.agree(0));
        }
        for (int i = 0; i < 32; i++) {
            int set = i;
            Edges.due("40 as dealt", true, LAST, x -> x.agree(set));
            Edges.due("40 without rows", true, NO_ROWS, x -> x.agree(set));
            Edges.due("40 a free row told falsely", true, Edges.after(LAST, x -> x.lie(4, 1)), x -> x.agree(set));
            for (int j = 0; j < 4; j++) {
                int row = j;
                Edges.Use lied = Edges.after(LAST, x -> x.lie(row, 1));
                Edges.due("40 a row of 0 told falsely", (i >> j & 1) == 0, lied, x -> x.agree(set));
            }
        }
        Edges.Use twice = x -> x.scheme(5) + x.share(0, 125) + x.share(0, 250) + x.deal(2, 0);
        for (int i = 0; i < 5; i++) {
            int share = i;
            Edges.Use lied = Edges.after(twice, x -> x.lie(1, share));
            Edges.due("40 twice the row, share " + i, i == 4, lied, x -> x.agree(1));
        }
    }

    private static void opening() {
        for (Edges.Use state : new Edges.Use[] {Edges.FULL, LAST, NO_ROWS}) {
            for (int set : new int[] {-1, 32, Integer.MIN_VALUE, Integer.MAX_VALUE}) {
                Edges.refused("41 no set", Edges.ARGUMENT, state, x -> x.open(set));
            }
            Edges.refused("41 no parties", Edges.NONE, state, x -> x.open(0));
        }
        for (int i = 0; i < 32; i++) {
            int set = i;
            Edges.refused("41 without rows", Edges.NONE, NO_ROWS, x -> x.open(set));
            Edges.Use lied = Edges.after(LAST, x -> x.lie(0, 1));
            if (i < 16) {
                Edges.refused("41 does not open: " + i, Edges.NONE, LAST, x -> x.open(set));
                Edges.refused("41 does not open, may not agree: " + i, Edges.NONE, lied, x -> x.open(set));
            } else if (i % 2 == 1) {
                Edges.due("41 opens: " + i, 4, LAST, x -> x.open(set));
                Edges.refused("41 opens, does not agree: " + i, Edges.UNSUPPORTED, lied, x -> x.open(set));
            } else {
                Edges.due("41 opens without the liar: " + i, 4, lied, x -> x.open(set));
            }
        }
        for (int i = 0; i < 5; i++) {
            int share = i;
            Edges.due("41 by a share told falsely", i, Edges.after(LAST, x -> x.lie(4, share)), x -> x.open(16));
        }
        for (int prime : PRIMES) {
            // The last multiple of the secret is -1 of it, so that it opens to the other sign.
            Edges.Use negative = x -> x.scheme(prime) + x.share(0, (prime - 1) * prime * prime * prime) + x.deal(1, 0);
            Edges.due("38 the share is -1 by " + prime, prime - 1, negative, x -> x.shareAt(0));
            Edges.due("41 the secret is 1 by " + prime, 1, negative, x -> x.open(1));
        }
    }
}
