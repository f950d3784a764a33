/** The edges of promises 15 to 23: laws and ranks. */
public final class RankEdgesTest {
    private static final int[] PRIMES = {2, 3, 5};
    private static final int ALL = 15;

    /** For each basic law ranks of the sets 1 to 15 that break it alone, then a set, and what its rank is too much. */
    private static final String[] BREAKING = {
        "011112211222232 15 -1", "101121212122322 15 -1", "112011212231222 15 -1", "112122301121222 15 -1",
        "001111111111111 3 1", "112111222222222 6 -1", "112222211122222 8 1", "000111111112111 12 1",
        "011011111111111 5 1", "111121222222222 3 -1", "122122211221222 8 1", "011001111211111 10 1",
        "011111101111111 8 -1", "111222212122222 2 1", "122112212221222 5 -1", "011112100111111 6 1",
        "101011111111111 4 -1", "111112222222222 1 1", "212122212121222 12 -1", "101010112111111 9 1",
        "101111101111111 2 -1", "111222211222222 9 -1", "212121212221222 4 1", "101121101011111 5 1",
        "111011101111111 12 1", "122112211222222 5 -1", "212121212122222 2 1", "112011101110111 3 1"
    };

    /** All four variables have 3 vectors. */
    private static final Edges.Use CROWDED = x -> {
        x.prime(3);
        for (int i = 0; i < 12; i++) {
            x.vector(i / 3, 80 - i);
        }
        return null;
    };

    public static void main(String[] args) {
        factors();
        lawsThatJustHold();
        primes();
        vectors();
        fullVariables();
        ranks();
        toldRanks();
        eachBasicLaw();
        ingletonValues();
        Check.end();
    }

    private static void factors() {
        for (Edges.Use state : new Edges.Use[] {Edges.NEW, Edges.FULL}) {
            Edges.range("15 sets", Edges.ARGUMENT, 1, 7, state, (x, set) -> x.factor(set, 9));
            for (int i = 1; i <= 7; i++) {
                int set = i;
                Edges.range("15 factors of " + set, Edges.ARGUMENT, -9, 9, state, (x, factor) -> x.factor(set, factor));
            }
            Edges.refused("15 no set, factor below", Edges.ARGUMENT, state, x -> x.factor(0, -10));
            Edges.refused("15 no set, factor above", Edges.ARGUMENT, state, x -> x.factor(8, 10));
            Edges.range("16 greatest ranks", Edges.ARGUMENT, 1, 2, state, (x, most) -> x.worst(most));
            Edges.range("17 greatest ranks", Edges.ARGUMENT, 1, 2, state, (x, most) -> x.holds(most));
        }
        Edges.due("15 the least factor before", -9, x -> x.factor(7, -9), x -> x.factor(7, 9));
        Edges.due("15 the greatest factor before", 9, x -> x.factor(1, 9), x -> x.factor(1, -9));
        Edges.due("15 a factor of 0 before", 0, x -> x.factor(1, 0), x -> x.factor(1, 1));
        Edges.due("15 a factor beside it", 0, x -> x.factor(6, 9), x -> x.factor(7, 1));
    }

    private static Edges.Use law(int... factors) {
        return x -> {
            for (int set = 1; set <= 7; set++) {
                x.factor(set, factors[set - 1]);
            }
            return null;
        };
    }

    private static void judge(String name, Edges.Use law, int worstOne, int worstTwo) {
        Edges.due("16 " + name + ", up to 1", worstOne, law, x -> x.worst(1));
        Edges.due("16 " + name + ", up to 2", worstTwo, law, x -> x.worst(2));
        Edges.due("17 " + name + ", up to 1", worstOne >= 0, law, x -> x.holds(1));
        Edges.due("17 " + name + ", up to 2", worstTwo >= 0, law, x -> x.holds(2));
    }

    /** Factors of 0, 1, 0 1, 2, 0 2, 1 2 and all three. */
    private static void lawsThatJustHold() {
        judge("no factor", law(0, 0, 0, 0, 0, 0, 0), 0, 0);
        judge("nothing but gains", law(9, 9, 9, 9, 9, 9, 9), 0, 0);
        judge("nothing but losses", law(-9, -9, -9, -9, -9, -9, -9), -9 * 12, -18 * 12);
        judge("one alone, lost", law(-1, 0, 0, 0, 0, 0, 0), -1, -2);
        judge("a set has as much as its part", law(-1, 0, 1, 0, 0, 0, 0), 0, 0);
        judge("a part more than the set", law(1, 0, -1, 0, 0, 0, 0), -1, -2);
        judge("all have as much as a pair", law(0, 0, -1, 0, 0, 0, 1), 0, 0);
        judge("two at most their sum", law(1, 1, -1, 0, 0, 0, 0), 0, 0);
        judge("two above their sum", law(1, 1, -2, 0, 0, 0, 0), -2, -4);
        judge("two pairs", law(-1, 0, 1, 0, 1, 0, -1), 0, 0);
        judge("two pairs without the common one", law(0, 0, 1, 0, 1, 0, -1), 0, 0);
        judge("two pairs, twice the common one", law(-2, 0, 1, 0, 1, 0, -1), -1, -2);
        judge("a pair and one", law(0, 0, 1, 1, 0, 0, -1), 0, 0);
        judge("three pairs and twice all", law(0, 0, 1, 0, 1, 1, -2), 0, 0);
        judge("three pairs and twice all, less one", law(-1, 0, 1, 0, 1, 1, -2), -1, -2);
        judge("what all three have in common, lost", law(-1, -1, 1, -1, 1, 1, -1), -1, -2);
        lawsOfOthers();
    }

    /** Each single variable without rank, each pair as much as all, and each variable as what two pairs have. */
    private static void lawsOfOthers() {
        judge("0 without rank", law(9, 0, -1, 0, 0, 0, 0), -1, -2);
        judge("1 without rank", law(0, 9, 0, 0, 0, -1, 0), -1, -2);
        judge("2 without rank", law(0, 0, 0, 9, -1, 0, 0), -1, -2);
        judge("all have as much as 0 2", law(0, 0, 0, 0, -1, 0, 1), 0, 0);
        judge("all have as much as 1 2", law(0, 0, 0, 0, 0, -1, 1), 0, 0);
        judge("two pairs with 1", law(0, -1, 1, 0, 0, 1, -1), 0, 0);
        judge("two pairs with 2", law(0, 0, 0, -1, 1, 1, -1), 0, 0);
        judge("two pairs, twice 1", law(0, -2, 1, 0, 0, 1, -1), -1, -2);
        judge("two pairs, twice 2", law(0, 0, 0, -2, 1, 1, -1), -1, -2);
    }

    private static void primes() {
        int[] none = {Integer.MIN_VALUE, -5, -3, -2, -1, 0, 1, 4, 6, 7, 11, 13, Integer.MAX_VALUE};
        for (Edges.Use state : new Edges.Use[] {Edges.NEW, Edges.FULL, CROWDED}) {
            for (int number : none) {
                Edges.refused("18 prime(" + number + ")", Edges.ARGUMENT, state, x -> x.prime(number));
            }
        }
        for (int before : PRIMES) {
            for (int after : PRIMES) {
                Edges.Use told = x -> x.prime(before);
                Edges.due("18 " + before + " and then " + after, before, told, x -> x.prime(after));
                Edges.Use again = Edges.after(CROWDED, x -> x.prime(after));
                Edges.due("18 no vectors then", 0, again, x -> x.rank(ALL));
                Edges.due("18 room for vectors then", 1, again, x -> x.vector(3, 1));
            }
        }
        Edges.due("18 told ranks stay", 5, Edges.after(Edges.FULL, x -> x.prime(2)), x -> x.setRank(15, 0));
        Edges.due("18 the prime of rows stays", 0,
                Edges.after(x -> x.scheme(2), x -> x.prime(5)), x -> x.share(0, 15));
        Edges.refused("18 the prime of rows is another one", Edges.ARGUMENT, x -> x.prime(5), x -> x.share(0, 16));
    }

    private static void vectors() {
        for (int prime : PRIMES) {
            int last = prime * prime * prime * prime - 1;
            Edges.Use told = x -> x.prime(prime);
            Edges.range("19 vectors by " + prime, Edges.ARGUMENT, 0, last, told, (x, vector) -> x.vector(3, vector));
            Edges.range("19 variables by " + prime, Edges.INDEX, 0, 3, told, (x, variable) -> x.vector(variable, last));
            Edges.due("20 the vector 0 by " + prime, 0, Edges.after(told, x -> x.vector(3, 0)), x -> x.rank(ALL));
            Edges.due("20 the last vector by " + prime, 1, Edges.after(told, x -> x.vector(3, last)), x -> x.rank(8));
            for (int i = 0; i < 4; i++) {
                int variable = i;
                for (int number = 1; number <= 3; number++) {
                    int count = number;
                    Edges.Use before = Edges.after(told, x -> give(x, variable, count - 1));
                    Edges.due("19 vector " + count + " of " + variable, count, before, x -> x.vector(variable, last));
                }
            }
        }
    }

    private static Object give(Entropiary x, int variable, int count) {
        for (int i = 0; i < count; i++) {
            x.vector(variable, 1 + i);
        }
        return null;
    }

    private static void fullVariables() {
        for (int i = 0; i < 4; i++) {
            int variable = i;
            Edges.refused("19 a fourth vector of " + i, Edges.STATE, CROWDED, x -> x.vector(variable, 80));
            Edges.refused("19 a fourth vector, the same", Edges.STATE, CROWDED, x -> x.vector(variable, 0));
            Edges.refused("19 a fourth vector, below", Edges.ARGUMENT, CROWDED, x -> x.vector(variable, -1));
            Edges.refused("19 a fourth vector, above", Edges.ARGUMENT, CROWDED, x -> x.vector(variable, 81));
            Edges.Use others = x -> {
                for (int other = 0; other < 4; other++) {
                    give(x, other, other == variable ? 2 : 3);
                }
                return null;
            };
            Edges.due("19 a third one when all others are full", 3, others, x -> x.vector(variable, 15));
        }
        Edges.refused("19 no variable, all are full", Edges.INDEX, CROWDED, x -> x.vector(4, 0));
        Edges.refused("19 no variable, all are full, no vector", Edges.INDEX, CROWDED, x -> x.vector(-1, 81));
        Edges.refusedAlways("19 no variable, no vector", Edges.INDEX, x -> x.vector(4, -1));
        Edges.refusedAlways("19 no variable below, vector above", Edges.INDEX, x -> x.vector(-1, 625));
        Edges.due("20 twelve vectors of four places", 4, CROWDED, x -> x.rank(ALL));
        Edges.refused("19 the first is full", Edges.STATE, Edges.FULL, x -> x.vector(0, 624));
        Edges.due("19 the second is not", 2, Edges.FULL, x -> x.vector(1, 624));
    }

    private static void ranks() {
        for (Edges.Use state : new Edges.Use[] {Edges.NEW, Edges.FULL, CROWDED}) {
            Edges.range("20 sets", Edges.ARGUMENT, 0, 15, state, (x, set) -> x.rank(set));
            Edges.due("20 no variables", 0, state, x -> x.rank(0));
        }
        for (int i = 0; i < 16; i++) {
            int set = i;
            Edges.due("20 no vectors in " + set, 0, Edges.NEW, x -> x.rank(set));
            int many = Integer.bitCount(set);
            Edges.due("20 one free vector each in " + set, many, RankEdgesTest::giveFree, x -> x.rank(set));
        }
        // 1 1 0 0, 0 1 1 0 and 1 0 1 0 add up to 0 by 2 alone.
        for (int prime : PRIMES) {
            int place = prime * prime * prime;
            int next = prime * prime;
            Edges.Use ring = x -> {
                x.prime(prime);
                return x.vector(0, place + next) + x.vector(1, next + prime) + x.vector(2, place + prime);
            };
            Edges.due("20 modulo " + prime, prime == 2 ? 2 : 3, ring, x -> x.rank(7));
        }
    }

    private static Object giveFree(Entropiary x) {
        return x.vector(0, 8) + x.vector(1, 4) + x.vector(2, 2) + x.vector(3, 1);
    }

    private static void toldRanks() {
        for (Edges.Use state : new Edges.Use[] {Edges.NEW, Edges.FULL}) {
            Edges.range("21 sets", Edges.ARGUMENT, 1, 15, state, (x, set) -> x.setRank(set, 9));
            for (int i = 1; i <= 15; i++) {
                int set = i;
                Edges.range("21 ranks of " + set, Edges.ARGUMENT, 0, 9, state, (x, rank) -> x.setRank(set, rank));
            }
            Edges.refused("21 no set, rank below", Edges.ARGUMENT, state, x -> x.setRank(0, -1));
            Edges.refused("21 no set, rank above", Edges.ARGUMENT, state, x -> x.setRank(16, 10));
        }
        Edges.due("21 the greatest before", 9, x -> x.setRank(15, 9), x -> x.setRank(15, 0));
        Edges.due("21 the least before", 0, Edges.after(Edges.FULL, x -> x.setRank(1, 0)), x -> x.setRank(1, 9));
        Edges.due("21 the rank beside it", 0, x -> x.setRank(14, 9), x -> x.setRank(15, 1));
        Edges.refused("22 nothing is told", Edges.NONE, Edges.NEW, Entropiary::broken);
    }

    /** Where law n alone is broken, and by 1 alone, so that with one rank put right all are just kept. */
    private static void eachBasicLaw() {
        for (int i = 0; i < BREAKING.length; i++) {
            int law = i;
            String[] words = BREAKING[i].split(" ");
            Edges.Use broken = x -> tellRanks(x, words[0]);
            int set = Integer.parseInt(words[1]);
            int right = words[0].charAt(set - 1) - '0' - Integer.parseInt(words[2]);
            Edges.due("22 the law " + i + " is broken", law, broken, Entropiary::broken);
            Edges.Use kept = Edges.after(broken, x -> x.setRank(set, right));
            Edges.refused("22 the law " + i + " is just kept", Edges.NONE, kept, Entropiary::broken);
        }
        Edges.due("22 the first of several laws", 0, Edges.after(x -> tellRanks(x, "111111111111113"),
                x -> x.setRank(14, 9) + x.setRank(13, 9)), Entropiary::broken);
    }

    private static Object tellRanks(Entropiary x, String ranks) {
        for (int set = 1; set < 16; set++) {
            x.setRank(set, ranks.charAt(set - 1) - '0');
        }
        return null;
    }

    private static void ingletonValues() {
        Edges.due("23 by vectors, none", 0, Edges.NEW, x -> x.ingleton(false));
        Edges.due("23 told, none", 0, Edges.NEW, x -> x.ingleton(true));
        int[] pairs = {3, 5, 9, 6, 10};
        int[] others = {1, 2, 12, 7, 11};
        Edges.Use greatest = x -> {
            for (int set : pairs) {
                x.setRank(set, 9);
            }
            return null;
        };
        Edges.Use least = x -> {
            for (int set : others) {
                x.setRank(set, 9);
            }
            return null;
        };
        Edges.due("23 the greatest told", 45, greatest, x -> x.ingleton(true));
        Edges.due("23 the least told", -45, least, x -> x.ingleton(true));
        Edges.due("23 vectors are not told", 0, greatest, x -> x.ingleton(false));
        Edges.due("23 told are not vectors", 0, CROWDED, x -> x.ingleton(true));
        for (int i = 0; i < 5; i++) {
            int pair = pairs[i];
            int other = others[i];
            Edges.due("23 the pair " + pair + " alone", 9, x -> x.setRank(pair, 9), x -> x.ingleton(true));
            Edges.due("23 the set " + other + " alone", -9, x -> x.setRank(other, 9), x -> x.ingleton(true));
        }
        int[] neither = {4, 8, 13, 14, 15};
        for (int set : neither) {
            Edges.due("23 the rank of " + set + " does not count", 0, x -> x.setRank(set, 9), x -> x.ingleton(true));
        }
        // Any three of 1000, 0100, 0010 and 1110 are free: the pairs have 2 each, 0 1 2 and 0 1 3 have 3 each.
        Edges.Use four = x -> x.vector(0, 8) + x.vector(1, 4) + x.vector(2, 2) + x.vector(3, 14);
        Edges.due("23 four vectors of rank 3", 10 - 1 - 1 - 2 - 3 - 3, four, x -> x.ingleton(false));
    }
}
