/** Promises 24 to 30: arrows and ties. */
public final class ArrowsTest {
    public static void main(String[] args) {
        arrows();
        separations();
        alikeGraphs();
        ties();
        whatFollows();
        Check.end();
    }

    private static void arrows() {
        Entropiary x = new Entropiary();
        Check.due("24 0 to 1", false, () -> x.arrow(0, 1, true));
        Check.due("24 again", true, () -> x.arrow(0, 1, true));
        Check.unsupported("24 back", () -> x.arrow(1, 0, true));
        Check.due("24 back taken away", false, () -> x.arrow(1, 0, false));
        x.arrow(1, 2, true);
        x.arrow(2, 5, true);
        Check.unsupported("24 a long round", () -> x.arrow(5, 0, true));
        Check.due("24 a short cut", false, () -> x.arrow(0, 5, true));
        Check.due("24 four arrows", 4, () -> x.keep());
        Check.due("24 taken away", true, () -> x.arrow(1, 2, false));
        Check.unsupported("24 still a round", () -> x.arrow(5, 0, true));
        x.arrow(0, 5, false);
        Check.due("24 no round then", false, () -> x.arrow(5, 0, true));
        Check.index("24 node 6", () -> x.arrow(6, 6, true));
        Check.index("24 node -1", () -> x.arrow(0, -1, true));
        Check.index("24 to node 6", () -> x.arrow(0, 6, false));
        Check.index("24 from node -1", () -> x.arrow(-1, 0, true));
        Check.argument("24 the same", () -> x.arrow(3, 3, true));
        Check.argument("24 the same, away", () -> x.arrow(3, 3, false));
        Check.due("26 three arrows", 3, x::keep);
    }

    private static void separations() {
        Entropiary x = new Entropiary();
        Check.due("25 no way", true, () -> x.isSeparated(0, 1, 0));
        x.arrow(0, 2, true);
        x.arrow(1, 2, true);
        x.arrow(2, 3, true);
        x.arrow(3, 4, true);
        Check.due("25 meeting", true, () -> x.isSeparated(0, 1, 0));
        Check.due("25 meeting, told", false, () -> x.isSeparated(0, 1, 4));
        Check.due("25 meeting, told from afar", false, () -> x.isSeparated(0, 1, 16));
        Check.due("25 meeting, another", true, () -> x.isSeparated(0, 1, 32));
        Check.due("25 chain", false, () -> x.isSeparated(0, 4, 0));
        Check.due("25 chain, shut", true, () -> x.isSeparated(0, 4, 8));
        Check.due("25 chain backward, shut", true, () -> x.isSeparated(4, 0, 4));
        Check.due("25 joined", false, () -> x.isSeparated(2, 0, 58));
        x.arrow(2, 5, true);
        Check.due("25 fork", false, () -> x.isSeparated(3, 5, 0));
        Check.due("25 fork, shut", true, () -> x.isSeparated(3, 5, 4));
        Check.index("25 node 6", () -> x.isSeparated(6, 6, -1));
        Check.index("25 node -1", () -> x.isSeparated(0, -1, 0));
        Check.index("25 to node 6", () -> x.isSeparated(0, 6, 0));
        Check.index("25 from node -1", () -> x.isSeparated(-1, 0, 0));
        Check.argument("25 the same", () -> x.isSeparated(1, 1, 0));
        Check.argument("25 set 64", () -> x.isSeparated(0, 1, 64));
        Check.argument("25 set -1", () -> x.isSeparated(0, 1, -1));
        Check.argument("25 first in it", () -> x.isSeparated(0, 1, 1));
        Check.argument("25 second in it", () -> x.isSeparated(0, 1, 2));
    }

    private static void alikeGraphs() {
        Entropiary x = new Entropiary();
        Check.state("27 none is kept", x::isLike);
        Check.due("26 no arrow", 0, x::keep);
        Check.due("27 both empty", true, x::isLike);
        x.arrow(0, 1, true);
        Check.due("27 one more", false, x::isLike);
        x.arrow(1, 2, true);
        Check.due("26 chain", 2, x::keep);
        x.arrow(1, 2, false);
        x.arrow(2, 1, true);
        Check.due("27 meeting against chain", false, x::isLike);
        x.arrow(0, 1, false);
        x.arrow(1, 0, true);
        Check.due("27 chain turned", true, x::isLike);
        x.arrow(2, 1, false);
        x.arrow(1, 2, true);
        Check.due("27 fork", true, x::isLike);
        x.arrow(1, 2, false);
        x.arrow(0, 2, true);
        Check.due("27 as many, other pairs", false, x::isLike);
        Check.due("26 other kept", 2, x::keep);
        Check.due("27 other kept", true, x::isLike);
        // Where the two that meet are joined, the meeting does not count.
        Entropiary y = new Entropiary();
        y.arrow(0, 1, true);
        y.arrow(0, 2, true);
        y.arrow(1, 2, true);
        y.keep();
        y.arrow(1, 2, false);
        y.arrow(2, 1, true);
        Check.due("27 three joined", true, y::isLike);
    }

    private static void ties() {
        Entropiary x = new Entropiary();
        Check.argument("28 a empty", () -> x.tie(0, 1, 2));
        Check.argument("28 b empty", () -> x.tie(1, 0, 2));
        Check.argument("28 a and b", () -> x.tie(1, 3, 0));
        Check.argument("28 a and c", () -> x.tie(1, 2, 1));
        Check.argument("28 b and c", () -> x.tie(1, 2, 6));
        Check.argument("28 a 16", () -> x.tie(16, 2, 1));
        Check.argument("28 b 16", () -> x.tie(1, 16, 2));
        Check.argument("28 c 16", () -> x.tie(1, 2, 16));
        Check.argument("28 a -1", () -> x.tie(-1, 2, 1));
        Check.argument("28 b -16", () -> x.tie(1, -16, 0));
        Check.argument("28 c -16", () -> x.tie(1, 2, -16));
        for (int i = 1; i <= 10; i++) {
            int told = i;
            Check.due("28 the same again", told, () -> x.tie(1, 2, 12));
        }
        Check.state("28 an eleventh", () -> x.tie(1, 2, 12));
        Check.argument("28 an eleventh, no tie", () -> x.tie(1, 1, 12));
        Check.due("29 untie", 10, x::untie);
        Check.due("29 untie again", 0, x::untie);
        Check.due("30 nothing is told", false, () -> x.follows(1, 2, 12));
        Check.due("28 one", 1, () -> x.tie(15 - 4, 4, 0));
    }

    private static void whatFollows() {
        Entropiary x = new Entropiary();
        Check.due("30 nothing", false, () -> x.follows(1, 2, 0));
        x.tie(1, 6, 8);
        Check.due("30 told", true, () -> x.follows(1, 6, 8));
        Check.due("30 turned", true, () -> x.follows(6, 1, 8));
        Check.due("30 a part", true, () -> x.follows(1, 4, 8));
        Check.due("30 a part, turned", true, () -> x.follows(2, 1, 8));
        Check.due("30 a part told", true, () -> x.follows(1, 2, 12));
        Check.due("30 less told", false, () -> x.follows(1, 6, 0));
        Check.due("30 other pair", false, () -> x.follows(2, 4, 8));
        x.untie();
        x.tie(1, 2, 4);
        Check.due("30 not yet", false, () -> x.follows(1, 6, 0));
        x.tie(4, 1, 0);
        Check.due("30 joined", true, () -> x.follows(1, 6, 0));
        Check.due("30 joined and parted", true, () -> x.follows(2, 1, 0));
        Check.argument("30 a empty", () -> x.follows(0, 1, 2));
        Check.argument("30 b empty", () -> x.follows(1, 0, 2));
        Check.argument("30 common", () -> x.follows(1, 2, 2));
        Check.argument("30 c 16", () -> x.follows(1, 2, 16));
        Check.argument("30 a -1", () -> x.follows(-1, 2, 0));
    }
}
