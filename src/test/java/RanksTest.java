/** Promises 15 to 23: laws and ranks. */
public final class RanksTest {
    public static void main(String[] args) {
        laws();
        vectors();
        toldRanks();
        ingletonValues();
        Check.end();
    }

    private static void laws() {
        Entropiary x = new Entropiary();
        Check.due("15 factor(7, 9)", 0, () -> x.factor(7, 9));
        Check.due("15 factor(7, -9)", 9, () -> x.factor(7, -9));
        Check.argument("15 factor(0, 1)", () -> x.factor(0, 1));
        Check.argument("15 factor(8, 1)", () -> x.factor(8, 1));
        Check.argument("15 factor(1, 10)", () -> x.factor(1, 10));
        Check.argument("15 factor(1, -10)", () -> x.factor(1, -10));
        Check.due("16 -9 times all, up to 1", -27, () -> x.worst(1));
        Check.due("16 -9 times all, up to 2", -54, () -> x.worst(2));
        Check.due("17 -9 times all", false, () -> x.holds(1));
        Check.argument("16 worst(0)", () -> x.worst(0));
        Check.argument("16 worst(3)", () -> x.worst(3));
        Check.argument("17 holds(0)", () -> x.holds(0));
        Check.argument("17 holds(3)", () -> x.holds(3));
        Check.due("15 factor(7, -1)", -9, () -> x.factor(7, -1));
        x.factor(5, 1);
        x.factor(6, 1);
        x.factor(4, -1);
        Check.due("16 submodular", 0, () -> x.worst(2));
        Check.due("17 submodular", true, () -> x.holds(2));
        // What two have in common would have to be shared by the third: three of which any two tell the third break it.
        Entropiary y = new Entropiary();
        y.factor(1, 1);
        y.factor(2, 1);
        y.factor(3, -1);
        Check.due("17 two and both", true, () -> y.holds(2));
        y.factor(5, -1);
        y.factor(6, -1);
        y.factor(4, 1);
        y.factor(7, 1);
        Check.due("16 common of three", -1, () -> y.worst(1));
        Check.due("16 common of three, up to 2", -2, () -> y.worst(2));
        Check.due("17 common of three", false, () -> y.holds(2));
    }

    private static void vectors() {
        Entropiary x = new Entropiary();
        Check.due("18 prime(5)", 2, () -> x.prime(5));
        Check.due("19 vector(0, 624)", 1, () -> x.vector(0, 624));
        Check.argument("19 vector(0, 625)", () -> x.vector(0, 625));
        Check.argument("19 vector(0, -1)", () -> x.vector(0, -1));
        Check.index("19 vector(4, 625)", () -> x.vector(4, 625));
        Check.index("19 vector(-1, 0)", () -> x.vector(-1, 0));
        Check.due("19 vector(0, 0)", 2, () -> x.vector(0, 0));
        Check.due("19 twice 624 again", 3, () -> x.vector(0, 468));
        Check.state("19 a fourth one", () -> x.vector(0, 1));
        Check.argument("19 a fourth one, out of range", () -> x.vector(0, 625));
        Check.due("20 multiples", 1, () -> x.rank(1));
        Check.due("20 none", 0, () -> x.rank(0));
        Check.due("20 without vectors", 0, () -> x.rank(14));
        x.vector(3, 125);
        x.vector(3, 25);
        x.vector(2, 5);
        Check.due("20 two and one", 3, () -> x.rank(12));
        Check.due("20 all", 4, () -> x.rank(15));
        Check.argument("20 rank(16)", () -> x.rank(16));
        Check.argument("20 rank(-1)", () -> x.rank(-1));
        Check.argument("18 prime(7)", () -> x.prime(7));
        Check.argument("18 prime(4)", () -> x.prime(4));
        Check.due("18 nothing has changed", 4, () -> x.rank(15));
        Check.due("18 the same prime", 5, () -> x.prime(5));
        Check.due("18 no vectors then", 0, () -> x.rank(15));
        Check.due("18 prime(3)", 5, () -> x.prime(3));
        Check.argument("19 vector(0, 81)", () -> x.vector(0, 81));
        Check.due("19 vector(0, 80)", 1, () -> x.vector(0, 80));
    }

    private static void toldRanks() {
        Entropiary x = new Entropiary();
        Check.none("22 all 0", x::broken);
        Check.due("21 setRank(15, 9)", 0, () -> x.setRank(15, 9));
        Check.due("22 the first pair", 7, x::broken);
        Check.due("21 setRank(15, 0)", 9, () -> x.setRank(15, 0));
        Check.argument("21 setRank(0, 1)", () -> x.setRank(0, 1));
        Check.argument("21 setRank(16, 1)", () -> x.setRank(16, 1));
        Check.argument("21 setRank(1, 10)", () -> x.setRank(1, 10));
        Check.argument("21 setRank(1, -1)", () -> x.setRank(1, -1));
        Check.none("22 nothing has changed", x::broken);
        x.setRank(7, 1);
        Check.due("22 all but 3", 3, x::broken);
        x.setRank(14, 1);
        Check.due("22 all but 0", 0, x::broken);
        x.setRank(7, 0);
        x.setRank(14, 0);
        x.setRank(12, 1);
        Check.due("22 the first pair, both others", 7, x::broken);
        int law = 4;
        for (int low = 0; low < 4; low++) {
            for (int high = low + 1; high < 4; high++) {
                int pair = 1 << low | 1 << high;
                for (int set = 1; set < 16; set++) {
                    x.setRank(set, 2 * Integer.bitCount(set & ~pair) + ((set & pair) == pair ? 1 : 0));
                }
                int due = law;
                Check.due("22 the pair " + low + " " + high, due, x::broken);
                law += 4;
            }
        }
        for (int set = 1; set < 16; set++) {
            x.setRank(set, Integer.bitCount(set));
        }
        Check.none("22 all free", x::broken);
        x.setRank(3, 1);
        // The pair 0 2 with the set of 1 is law 4 + 4 + 1: with it 0 has 1 and 2 has 2, but both have 3, it alone 1.
        Check.due("22 two alike", 9, x::broken);
    }

    private static void ingletonValues() {
        Entropiary x = new Entropiary();
        Check.due("23 by vectors, none", 0, () -> x.ingleton(false));
        Check.due("23 told, none", 0, () -> x.ingleton(true));
        int[] plus = {3, 5, 9, 6, 10};
        int[] less = {1, 2, 12, 7, 11};
        for (int set : plus) {
            x.setRank(set, 1);
            Check.due("23 told, plus " + set, 1, () -> x.ingleton(true));
            x.setRank(set, 0);
        }
        for (int set : less) {
            x.setRank(set, 2);
            Check.due("23 told, less " + set, -2, () -> x.ingleton(true));
            x.setRank(set, 0);
        }
        x.vector(0, 8);
        Check.due("23 one vector", 0, () -> x.ingleton(false));
        x.vector(1, 4);
        x.vector(2, 12);
        Check.due("23 three vectors", 1, () -> x.ingleton(false));
        Check.due("23 told stays", 0, () -> x.ingleton(true));
    }
}
