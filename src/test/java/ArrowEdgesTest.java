/** The edges of promises 24 to 30: arrows and ties. */
public final class ArrowEdgesTest {
    private static final int NODES = 6;

    /** All arrows from lower nodes to higher ones, kept. */
    private static final Edges.Use DENSE = x -> {
        for (int from = 0; from < NODES; from++) {
            for (int to = from + 1; to < NODES; to++) {
                x.arrow(from, to, true);
            }
        }
        return x.keep();
    };

    /** A chain through all nodes. */
    private static final Edges.Use CHAIN = x -> {
        for (int node = 0; node < NODES - 1; node++) {
            x.arrow(node, node + 1, true);
        }
        return null;
    };

    private static final Edges.Use NINE = x -> tellTies(x, 9);
    private static final Edges.Use TEN = x -> tellTies(x, 10);

    private static final Edges.Use[] STATES = {Edges.NEW, Edges.FULL, DENSE, CHAIN};

    public static void main(String[] args) {
        nodesOfArrows();
        rounds();
        arrowsBefore();
        nodesOfSeparations();
        setsOfSeparations();
        waysThatAreShut();
        keptGraphs();
        graphsAlike();
        tiesThatAreNone();
        tenTies();
        following();
        Check.end();
    }

    private static void nodesOfArrows() {
        Edges.range("24 from, told", Edges.INDEX, 0, 5, Edges.NEW, (x, from) -> x.arrow(from, from == 2 ? 3 : 2, true));
        Edges.range("24 to, told", Edges.INDEX, 0, 5, Edges.NEW, (x, to) -> x.arrow(to == 2 ? 3 : 2, to, true));
        for (Edges.Use state : STATES) {
            Edges.range("24 from", Edges.INDEX, 0, 5, state, (x, from) -> x.arrow(from, 2, false));
            Edges.range("24 to", Edges.INDEX, 0, 5, state, (x, to) -> x.arrow(3, to, false));
            for (int node : new int[] {-1, 6, Integer.MIN_VALUE, Integer.MAX_VALUE}) {
                for (int i = 0; i < NODES; i++) {
                    int other = i;
                    Edges.refused("24 no node to go to", Edges.INDEX, state, x -> x.arrow(other, node, true));
                    Edges.refused("24 no node to go from", Edges.INDEX, state, x -> x.arrow(node, other, true));
                }
                Edges.refused("24 no node, the same", Edges.INDEX, state, x -> x.arrow(node, node, true));
                Edges.refused("24 no node, the same, away", Edges.INDEX, state, x -> x.arrow(node, node, false));
            }
            for (int i = 0; i < NODES; i++) {
                int node = i;
                Edges.refused("24 from a node to itself", Edges.ARGUMENT, state, x -> x.arrow(node, node, true));
                Edges.refused("24 away from itself", Edges.ARGUMENT, state, x -> x.arrow(node, node, false));
            }
        }
    }

    private static void rounds() {
        for (int i = 0; i < NODES; i++) {
            for (int j = 0; j < NODES; j++) {
                int from = i;
                int to = j;
                if (i < j) {
                    Edges.due("24 told again", true, DENSE, x -> x.arrow(from, to, true));
                    Edges.due("24 a short cut", j == i + 1, CHAIN, x -> x.arrow(from, to, true));
                    Edges.due("24 the first arrow", false, Edges.NEW, x -> x.arrow(from, to, true));
                }
                if (i > j) {
                    Edges.refused("24 against all", Edges.UNSUPPORTED, DENSE, x -> x.arrow(from, to, true));
                    Edges.refused("24 against a chain", Edges.UNSUPPORTED, CHAIN, x -> x.arrow(from, to, true));
                    Edges.due("24 an arrow that would make a round, away", false, CHAIN, x -> x.arrow(from, to, false));
                    Edges.due("24 the first arrow, downwards", false, Edges.NEW, x -> x.arrow(from, to, true));
                }
            }
        }
        for (int i = 0; i < NODES - 1; i++) {
            int node = i;
            Edges.Use parted = Edges.after(CHAIN, x -> x.arrow(node, node + 1, false));
            Edges.due("24 no round through a gap", false, parted, x -> x.arrow(5, 0, true));
            Edges.refused("24 a round once closed", Edges.UNSUPPORTED, Edges.after(parted, x -> x.arrow(5, 0, true)),
                    x -> x.arrow(node, node + 1, true));
        }
        Edges.due("24 a round of pairs alone is none", false,
                x -> x.arrow(0, 1, true) ^ x.arrow(2, 1, true), x -> x.arrow(0, 2, true));
    }

    private static void arrowsBefore() {
        Edges.due("24 was not there", false, Edges.NEW, x -> x.arrow(0, 1, false));
        Edges.due("24 was there, away", true, CHAIN, x -> x.arrow(0, 1, false));
        Edges.due("24 away twice", false, Edges.after(CHAIN, x -> x.arrow(0, 1, false)), x -> x.arrow(0, 1, false));
        Edges.due("24 the other way is another arrow", false, CHAIN, x -> x.arrow(1, 0, false));
        Edges.due("24 away leaves the other way", true, Edges.after(CHAIN, x -> x.arrow(1, 0, false)),
                x -> x.arrow(0, 1, true));
        Edges.due("26 fifteen arrows at most", 15, DENSE, Entropiary::keep);
    }

    private static void nodesOfSeparations() {
        for (Edges.Use state : STATES) {
            for (int i = 0; i < NODES; i++) {
                int other = i;
                for (int node : new int[] {-1, 6, Integer.MIN_VALUE, Integer.MAX_VALUE}) {
                    Edges.refused("25 no node a", Edges.INDEX, state, x -> x.isSeparated(node, other, 0));
                    Edges.refused("25 no node b", Edges.INDEX, state, x -> x.isSeparated(other, node, 0));
                    Edges.refused("25 no node a, no set", Edges.INDEX, state, x -> x.isSeparated(node, other, 64));
                    Edges.refused("25 no node b, no set", Edges.INDEX, state, x -> x.isSeparated(other, node, -1));
                    Edges.refused("25 no node, in it", Edges.INDEX, state, x -> x.isSeparated(other, node, 1 << other));
                    Edges.refused("25 no nodes, the same", Edges.INDEX, state, x -> x.isSeparated(node, node, 0));
                }
                Edges.refused("25 the same", Edges.ARGUMENT, state, x -> x.isSeparated(other, other, 0));
                Edges.refused("25 the same, no set", Edges.ARGUMENT, state, x -> x.isSeparated(other, other, 64));
            }
        }
    }

    private static void setsOfSeparations() {
        for (int i = 0; i < NODES * NODES; i++) {
            int a = i / NODES;
            int b = i % NODES;
            if (a == b) {
                continue;
            }
            int rest = 63 & ~(1 << a | 1 << b);
            boolean areNext = Math.abs(a - b) == 1;
            Edges.due("25 joined, by none", false, DENSE, x -> x.isSeparated(a, b, 0));
            Edges.due("25 joined, by all others", false, DENSE, x -> x.isSeparated(a, b, rest));
            Edges.due("25 a chain by none", false, CHAIN, x -> x.isSeparated(a, b, 0));
            Edges.due("25 a chain by all others", !areNext, CHAIN, x -> x.isSeparated(a, b, rest));
            Edges.due("25 no arrow, by none", true, Edges.NEW, x -> x.isSeparated(a, b, 0));
            Edges.due("25 no arrow, by all others", true, Edges.NEW, x -> x.isSeparated(a, b, rest));
            int[] none = {-1, 64, Integer.MIN_VALUE, Integer.MAX_VALUE, 64 | rest, 1 << a, 1 << b, 1 << a | 1 << b, 63};
            for (int set : none) {
                Edges.refused("25 no set beside " + a + b, Edges.ARGUMENT, CHAIN, x -> x.isSeparated(a, b, set));
                Edges.refused("25 no set beside " + a + b, Edges.ARGUMENT, Edges.NEW, x -> x.isSeparated(a, b, set));
            }
        }
    }

    private static void waysThatAreShut() {
        // 0 and 1 point to 2, from which a chain goes on to 3, 4 and 5.
        Edges.Use meeting = x -> x.arrow(0, 2, true) | x.arrow(1, 2, true) | x.arrow(2, 3, true) | x.arrow(3, 4, true)
                | x.arrow(4, 5, true);
        Edges.due("25 both arrows point to it", true, meeting, x -> x.isSeparated(0, 1, 0));
        for (int set = 4; set < 64; set <<= 1) {
            int told = set;
            Edges.due("25 reached from it: " + told, false, meeting, x -> x.isSeparated(0, 1, told));
        }
        Edges.Use cut = Edges.after(meeting, x -> x.arrow(4, 5, false));
        Edges.due("25 no more reached from it", true, cut, x -> x.isSeparated(0, 1, 32));
        Edges.due("25 the last that is reached", false, cut, x -> x.isSeparated(0, 1, 16));
        Edges.due("25 away from it on one side", false, meeting, x -> x.isSeparated(0, 3, 0));
        Edges.due("25 away from it on one side, in the set", true, meeting, x -> x.isSeparated(0, 3, 4));
        Edges.Use fork = x -> x.arrow(2, 0, true) | x.arrow(2, 1, true);
        Edges.due("25 away from it on both sides", false, fork, x -> x.isSeparated(0, 1, 0));
        Edges.due("25 away from it on both sides, in the set", true, fork, x -> x.isSeparated(0, 1, 4));
        for (int i = 0; i < NODES; i++) {
            int midst = i;
            int a = (i + 1) % NODES;
            int b = (i + 2) % NODES;
            Edges.Use point = x -> x.arrow(a, midst, true) | x.arrow(b, midst, true);
            Edges.due("25 arrows that point to " + i, true, point, x -> x.isSeparated(a, b, 0));
            Edges.due("25 arrows that point to " + i + ", in it", false, point, x -> x.isSeparated(a, b, 1 << midst));
            int others = 63 & ~(1 << a | 1 << b | 1 << midst);
            Edges.due("25 arrows that point to " + i + ", others", true, point, x -> x.isSeparated(a, b, others));
        }
        // A second way round: one open way is enough.
        Edges.Use twice = Edges.after(fork, x -> x.arrow(0, 3, true) | x.arrow(1, 3, true));
        Edges.due("25 one way shut", false, twice, x -> x.isSeparated(0, 1, 0));
        Edges.due("25 the other way open", false, twice, x -> x.isSeparated(0, 1, 12));
        Edges.due("25 both ways shut", true, twice, x -> x.isSeparated(0, 1, 4));
        // Each step of 0, 2, 3, 4, 5, 1 is a meeting or a fork by turns.
        Edges.Use long5 = x -> x.arrow(0, 2, true) | x.arrow(3, 2, true) | x.arrow(3, 4, true) | x.arrow(5, 4, true)
                | x.arrow(5, 1, true);
        for (int bits = 0; bits < 16; bits++) {
            int set = bits << 2;
            boolean isOpen = (set & 20) == 20 && (set & 40) == 0;
            Edges.due("25 through all nodes by " + set, !isOpen, long5, x -> x.isSeparated(0, 1, set));
        }
    }

    private static void keptGraphs() {
        for (int many = 0; many < NODES; many++) {
            int arrows = many;
            Edges.Use some = x -> {
                for (int node = 0; node < arrows; node++) {
                    x.arrow(node, node + 1, true);
                }
                return null;
            };
            Edges.due("26 arrows: " + many, many, some, Entropiary::keep);
            Edges.refused("27 none kept, arrows: " + many, Edges.STATE, some, Entropiary::isLike);
            Edges.due("27 kept, arrows: " + many, true, Edges.after(some, Entropiary::keep), Entropiary::isLike);
        }
        Edges.due("27 no arrow kept", true, Entropiary::keep, Entropiary::isLike);
        Edges.due("27 no arrow kept, one told", false, Edges.after(Entropiary::keep, x -> x.arrow(4, 5, true)),
                Entropiary::isLike);
        Edges.Use twice = Edges.after(DENSE, x -> x.arrow(0, 5, false) | x.keep() > 0);
        Edges.due("27 kept in place of one before", true, twice, Entropiary::isLike);
        Edges.due("27 the one before is gone", false, Edges.after(twice, x -> x.arrow(0, 5, true)), Entropiary::isLike);
        Edges.due("26 kept stays as it was", false, Edges.after(DENSE, x -> x.arrow(0, 1, false)), Entropiary::isLike);
        Edges.due("26 told again", 15, Edges.after(DENSE, x -> x.arrow(0, 1, true)), Entropiary::keep);
    }

    private static void graphsAlike() {
        Edges.due("27 the last pair is not joined", false, Edges.after(DENSE, x -> x.arrow(4, 5, false)),
                Entropiary::isLike);
        Edges.due("27 the last pair turned", true,
                Edges.after(DENSE, x -> x.arrow(4, 5, false) | x.arrow(5, 4, true)), Entropiary::isLike);
        Edges.Use meeting = x -> x.arrow(0, 5, true) | x.arrow(4, 5, true) | x.keep() > 0;
        Edges.due("27 a meeting turned to a chain", false,
                Edges.after(meeting, x -> x.arrow(0, 5, false) | x.arrow(5, 0, true)), Entropiary::isLike);
        Edges.due("27 a meeting turned to a fork", false, Edges.after(meeting, x -> x.arrow(0, 5, false)
                | x.arrow(4, 5, false) | x.arrow(5, 0, true) | x.arrow(5, 4, true)), Entropiary::isLike);
        Edges.due("27 a meeting, joined", false, Edges.after(meeting, x -> x.arrow(0, 4, true)), Entropiary::isLike);
        Edges.Use chain = Edges.after(CHAIN, Entropiary::keep);
        Edges.due("27 a chain turned at its end", true,
                Edges.after(chain, x -> x.arrow(0, 1, false) | x.arrow(1, 0, true)), Entropiary::isLike);
        Edges.due("27 a chain turned at its other end", false,
                Edges.after(chain, x -> x.arrow(4, 5, false) | x.arrow(5, 4, true)), Entropiary::isLike);
        // The same pairs, and as many meetings, but at another node.
        Edges.Use one = x -> x.arrow(0, 1, true) | x.arrow(2, 1, true) | x.arrow(2, 3, true) | x.keep() > 0;
        Edges.due("27 meeting elsewhere", false, Edges.after(one, x -> x.arrow(2, 1, false) | x.arrow(1, 2, true)
                | x.arrow(2, 3, false) | x.arrow(3, 2, true)), Entropiary::isLike);
    }

    private static Object tellTies(Entropiary x, int many) {
        for (int i = 0; i < many; i++) {
            x.tie(1, 2, 4);
        }
        return null;
    }

    private static void tiesThatAreNone() {
        for (Edges.Use state : new Edges.Use[] {Edges.NEW, NINE, TEN, Edges.FULL}) {
            for (int i = 0; i < 4; i++) {
                int one = 1 << i;
                int other = 1 << (i + 1) % 4;
                int third = 1 << (i + 2) % 4;
                noTie("a empty", state, 0, other, third);
                noTie("b empty", state, one, 0, third);
                noTie("a and b empty", state, 0, 0, third);
                noTie("all empty", state, 0, 0, 0);
                noTie("a and b have the same", state, one, one, third);
                noTie("a and c have the same", state, one, other, one);
                noTie("b and c have the same", state, one, other, other);
                noTie("all have the same", state, one, one, one);
                noTie("a and b have one of two", state, one | third, other | third, 0);
                noTie("a and c have one of two", state, one | third, other, third);
                noTie("b and c have one of two", state, one, other | third, third);
            }
            for (int set : new int[] {-1, 16, -16, 16 << 4, Integer.MIN_VALUE, Integer.MAX_VALUE}) {
                noTie("no a", state, set, 1, 2);
                noTie("no b", state, 1, set, 2);
                noTie("no c", state, 1, 2, set);
                noTie("no a, c empty", state, set, 1, 0);
                noTie("no b, c empty", state, 1, set, 0);
            }
            noTie("a beyond by one variable more", state, 17, 2, 4);
            noTie("b beyond by one variable more", state, 1, 18, 4);
            noTie("c beyond by one variable more", state, 1, 2, 20);
        }
    }

    private static void noTie(String name, Edges.Use state, int a, int b, int c) {
        Edges.refused("28 " + name, Edges.ARGUMENT, state, x -> x.tie(a, b, c));
        Edges.refused("30 " + name, Edges.ARGUMENT, state, x -> x.follows(a, b, c));
    }

    private static void tenTies() {
        for (int i = 0; i < 10; i++) {
            int many = i;
            Edges.due("28 after " + i, many + 1, x -> tellTies(x, many), x -> x.tie(1, 2, 4));
            Edges.due("29 after " + i, many, x -> tellTies(x, many), Entropiary::untie);
        }
        Edges.due("29 after 10", 10, TEN, Entropiary::untie);
        Edges.refused("28 an eleventh, the same", Edges.STATE, TEN, x -> x.tie(1, 2, 4));
        Edges.refused("28 an eleventh, another", Edges.STATE, TEN, x -> x.tie(8, 1, 0));
        Edges.refused("28 an eleventh, that follows", Edges.STATE, Edges.FULL, x -> x.tie(2, 1, 0));
        Edges.Use anew = Edges.after(TEN, Entropiary::untie);
        Edges.due("29 nothing follows then", false, anew, x -> x.follows(1, 2, 4));
        Edges.due("29 none is told then", 0, anew, Entropiary::untie);
        Edges.due("28 room again", 1, anew, x -> x.tie(1, 2, 4));
        Edges.refused("28 ten again", Edges.STATE, Edges.after(anew, TEN), x -> x.tie(1, 2, 4));
        Edges.due("28 the tenth counts", true, Edges.after(NINE, x -> x.tie(1, 8, 0)), x -> x.follows(1, 8, 0));
        Edges.due("28 the largest sets", 1, Edges.NEW, x -> x.tie(8, 7, 0));
        Edges.due("28 the largest sets, turned", 1, Edges.NEW, x -> x.tie(7, 8, 0));
        Edges.due("28 the largest c", 1, Edges.NEW, x -> x.tie(1, 2, 12));
    }

    private static void following() {
        Edges.due("30 nothing is told", false, Edges.NEW, x -> x.follows(1, 2, 0));
        Edges.due("30 nothing is told, the largest sets", false, Edges.NEW, x -> x.follows(7, 8, 0));
        Edges.due("30 told, c empty", true, x -> x.tie(1, 2, 0), x -> x.follows(1, 2, 0));
        Edges.due("30 the largest sets", true, x -> x.tie(7, 8, 0), x -> x.follows(8, 7, 0));
        Edges.due("30 parts on both sides", true, x -> x.tie(3, 12, 0), x -> x.follows(2, 4, 0));
        Edges.due("30 parts and the others told", true, x -> x.tie(3, 12, 0), x -> x.follows(2, 4, 9));
        Edges.due("30 one variable has no parts", false, x -> x.tie(1, 2, 0), x -> x.follows(1, 2, 4));
        Edges.due("30 no more than told", false, x -> x.tie(1, 2, 0), x -> x.follows(1, 6, 0));
        Edges.due("30 less told before", false, x -> x.tie(1, 2, 4), x -> x.follows(1, 2, 0));
        for (int i = 0; i < 4; i++) {
            int one = 1 << i;
            int a = 1 << (i + 1) % 4;
            int b = 1 << (i + 2) % 4;
            Edges.due("30 c empty, told with " + one, false, x -> x.tie(a, b, one), x -> x.follows(a, b, 0));
            Edges.due("30 c " + one + ", told without", false, x -> x.tie(a, b, 0), x -> x.follows(a, b, one));
            Edges.due("30 a part may be told before", true, x -> x.tie(a, b | one, 0), x -> x.follows(a, b, one));
            Edges.due("30 nothing else may be", false, x -> x.tie(a, 15 & ~(a | one), 0), x -> x.follows(a, b, one));
        }
        Edges.Use both = x -> x.tie(1, 2, 12) + x.tie(1, 4, 8);
        Edges.due("30 joined", true, both, x -> x.follows(1, 6, 8));
        Edges.due("30 joined and parted", true, both, x -> x.follows(1, 2, 8));
        Edges.Use three = Edges.after(both, x -> x.tie(8, 1, 0));
        Edges.due("30 joined twice", true, three, x -> x.follows(14, 1, 0));
        Edges.due("30 joined from a single d on, b d told apart", false,
                x -> x.tie(1, 2, 4) + x.tie(1, 4, 2), x -> x.follows(1, 6, 0));
        Edges.due("30 each alone", false, x -> x.tie(1, 2, 0) + x.tie(1, 4, 0), x -> x.follows(1, 6, 0));
    }
}
