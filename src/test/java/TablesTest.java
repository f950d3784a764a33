/** Promises 1 to 14: a new object and tables. */
public final class TablesTest {
    public static void main(String[] args) {
        newObject();
        layingAndWeighing();
        chances();
        apartSets();
        toldSets();
        commonParts();
        classesOfRows();
        guesses();
        Check.end();
    }

    private static void newObject() {
        Entropiary x = new Entropiary();
        Check.due("1 cells", 0L, x::checksum);
        Check.due("1 weigh(1, 5)", 0, () -> x.weigh(1, 5));
        Check.index("1 weigh(2, 0)", () -> x.weigh(2, 0));
        Check.argument("1 set 2", () -> x.chanceOver(2, 0));
        Check.due("1 worst", 0, () -> x.worst(2));
        Check.due("1 prime", 2, () -> x.prime(3));
        Check.none("1 broken", x::broken);
        Check.state("1 isLike", x::isLike);
        Check.due("1 untie", 0, x::untie);
        Check.due("1 scheme", 0, () -> x.scheme(2));
        Check.due("1 wipe", 0, x::wipe);
        Check.due("1 inputs", 1, () -> x.inputs(2));
        Check.due("1 receivers", 1, () -> x.receivers(2));
        Entropiary y = new Entropiary();
        Check.due("1 vector below 16", 1, () -> y.vector(0, 15));
        Check.argument("1 vector 16", () -> y.vector(0, 16));
        Check.argument("1 row 16", () -> y.share(0, 16));
        Check.due("1 row 15", 0, () -> y.share(0, 15));
        Check.due("1 apart", 1, () -> y.apart(2));
        Check.due("1 broadcasts", 1, y::broadcasts);
    }

    private static void layingAndWeighing() {
        Entropiary x = new Entropiary();
        Check.due("2 table(1, 3)", 3, () -> x.table(1, 3));
        Check.due("2 table(4, 2)", 16, () -> x.table(4, 2));
        Check.due("2 table(4, 3)", 81, () -> x.table(4, 3));
        Check.due("3 weigh(80, 99)", 0, () -> x.weigh(80, 99));
        Check.due("3 weigh(80, 7)", 99, () -> x.weigh(80, 7));
        Check.argument("2 table(0, 2)", () -> x.table(0, 2));
        Check.argument("2 table(5, 2)", () -> x.table(5, 2));
        Check.argument("2 table(2, 1)", () -> x.table(2, 1));
        Check.argument("2 table(2, 4)", () -> x.table(2, 4));
        Check.due("3 weigh(80, 0)", 7, () -> x.weigh(80, 0));
        Check.index("3 weigh(81, 100)", () -> x.weigh(81, 100));
        Check.index("3 weigh(-1, 0)", () -> x.weigh(-1, 0));
        Check.argument("3 weigh(0, 100)", () -> x.weigh(0, 100));
        Check.argument("3 weigh(0, -1)", () -> x.weigh(0, -1));
        Check.due("3 nothing has changed", 0, () -> x.weigh(0, 3));
        Check.due("2 table(2, 2)", 4, () -> x.table(2, 2));
        Check.due("2 weights are 0", 0, () -> x.weigh(0, 0));
        Check.index("3 weigh(4, 0)", () -> x.weigh(4, 0));
    }

    private static void chances() {
        Entropiary x = new Entropiary();
        x.table(2, 3);
        Check.unsupported("4 all 0", () -> x.chanceOver(1, 0));
        Check.unsupported("5 all 0", () -> x.chanceUnder(0, 0));
        Check.index("4 all 0, no row", () -> x.chanceOver(1, 3));
        Check.argument("4 all 0, no set", () -> x.chanceOver(4, 3));
        x.weigh(1, 2);
        x.weigh(3, 4);
        x.weigh(8, 6);
        // Cells 1, 3 and 8 are the rows 0, 1 and 2 of variable 0, and 1, 0 and 2 of variable 1.
        Check.due("4 variable 0", 1L, () -> x.chanceOver(1, 0));
        Check.due("5 variable 0", 6L, () -> x.chanceUnder(1, 0));
        Check.due("4 variable 1", 1L, () -> x.chanceOver(2, 0));
        Check.due("5 variable 1", 3L, () -> x.chanceUnder(2, 0));
        Check.due("4 both, there", 1L, () -> x.chanceOver(3, 8));
        Check.due("5 both, there", 2L, () -> x.chanceUnder(3, 8));
        Check.due("4 both, not there", 0L, () -> x.chanceOver(3, 0));
        Check.due("5 both, not there", 1L, () -> x.chanceUnder(3, 0));
        Check.due("4 none", 1L, () -> x.chanceOver(0, 0));
        Check.due("5 none", 1L, () -> x.chanceUnder(0, 0));
        Check.index("4 none, row 1", () -> x.chanceOver(0, 1));
        Check.index("5 both, row 9", () -> x.chanceUnder(3, 9));
        Check.index("5 row -1", () -> x.chanceUnder(3, -1));
        Check.argument("5 set -1", () -> x.chanceUnder(-1, 0));
        Check.argument("5 set 4", () -> x.chanceUnder(4, 0));
    }

    /** Three bits of which any two tell the third one. */
    private static Entropiary parity() {
        Entropiary x = new Entropiary();
        x.table(3, 2);
        x.weigh(0, 1);
        x.weigh(3, 1);
        x.weigh(5, 1);
        x.weigh(6, 1);
        return x;
    }

    private static void apartSets() {
        Entropiary x = parity();
        Check.due("6 parity", true, () -> x.areApart(1, 2, 0));
        Check.due("6 parity by the third", false, () -> x.areApart(1, 2, 4));
        Check.due("6 pair and one", false, () -> x.areApart(3, 4, 0));
        Check.due("6 with nothing", true, () -> x.areApart(0, 4, 3));
        Check.due("6 nothing at all", true, () -> x.areApart(0, 0, 0));
        Check.argument("6 first and second", () -> x.areApart(1, 3, 4));
        Check.argument("6 first and third", () -> x.areApart(4, 1, 4));
        Check.argument("6 second and third", () -> x.areApart(1, 6, 2));
        Check.argument("6 first is no set", () -> x.areApart(8, 1, 2));
        Check.argument("6 second is no set", () -> x.areApart(1, -1, 2));
        Check.argument("6 third is no set", () -> x.areApart(1, 2, 8));
        x.weigh(0, 2);
        Check.due("6 parity, weighed", false, () -> x.areApart(1, 2, 0));
        x.table(3, 2);
        Check.due("6 all 0", true, () -> x.areApart(1, 2, 4));
    }

    private static void toldSets() {
        Entropiary x = parity();
        Check.due("7 by two", true, () -> x.isTold(4, 3));
        Check.due("7 by one", false, () -> x.isTold(4, 1));
        Check.due("7 itself", true, () -> x.isTold(4, 4));
        Check.due("7 overlapping", true, () -> x.isTold(5, 3));
        Check.due("7 none", true, () -> x.isTold(0, 0));
        Check.due("7 by none", false, () -> x.isTold(1, 0));
        Check.argument("7 set 8", () -> x.isTold(8, 0));
        Check.argument("7 by -1", () -> x.isTold(0, -1));
        x.table(3, 2);
        Check.due("7 nothing is there", true, () -> x.isTold(1, 0));
    }

    private static void commonParts() {
        Entropiary x = new Entropiary();
        x.table(2, 3);
        Check.due("8 nothing is there", 0, () -> x.parts(1, 2));
        Check.none("9 nothing is there", () -> x.partOf(1, 2, 0));
        // Row 0 goes with 2, row 1 with 1, row 2 with 2: the parts are 0 2 and 1.
        x.weigh(2, 5);
        x.weigh(4, 1);
        x.weigh(8, 1);
        Check.due("8 parts", 2, () -> x.parts(1, 2));
        Check.due("9 row 0", 0, () -> x.partOf(1, 2, 0));
        Check.due("9 row 1", 1, () -> x.partOf(1, 2, 1));
        Check.due("9 row 2", 0, () -> x.partOf(1, 2, 2));
        Check.due("9 the other way, row 1", 0, () -> x.partOf(2, 1, 1));
        Check.due("9 the other way, row 2", 1, () -> x.partOf(2, 1, 2));
        Check.none("9 the other way, row 0", () -> x.partOf(2, 1, 0));
        Check.due("8 with itself", 3, () -> x.parts(1, 1));
        Check.due("8 with none", 1, () -> x.parts(3, 0));
        Check.due("8 none", 1, () -> x.parts(0, 3));
        Check.argument("8 set 4", () -> x.parts(4, 1));
        Check.argument("8 by 4", () -> x.parts(1, 4));
        Check.argument("9 set and row", () -> x.partOf(4, 1, 9));
        Check.argument("9 by -1", () -> x.partOf(1, -1, 0));
        Check.index("9 row 3", () -> x.partOf(1, 2, 3));
        Check.index("9 row -1", () -> x.partOf(1, 2, -1));
        // A long chain: each row is together with the next one over the other set.
        x.table(4, 3);
        for (int row = 0; row < 9; row++) {
            x.weigh(row * 9 + 8 - row, 1);
            x.weigh(row * 9 + Math.max(0, 7 - row), 1);
        }
        Check.due("8 chain", 1, () -> x.parts(3, 12));
        Check.due("9 chain", 0, () -> x.partOf(3, 12, 8));
    }

    private static void classesOfRows() {
        Entropiary x = new Entropiary();
        x.table(2, 3);
        Check.due("10 nothing is there", 0, () -> x.classes(1, 2));
        x.weigh(0, 1);
        x.weigh(1, 2);
        x.weigh(3, 2);
        x.weigh(4, 4);
        x.weigh(6, 2);
        x.weigh(7, 1);
        Check.due("10 rows 0 and 1 alike", 2, () -> x.classes(1, 2));
        Check.due("10 the other way", 2, () -> x.classes(2, 1));
        Check.due("10 about none", 1, () -> x.classes(3, 0));
        Check.due("10 about itself", 3, () -> x.classes(1, 1));
        Check.due("10 of none", 1, () -> x.classes(0, 3));
        Check.argument("10 set 4", () -> x.classes(4, 0));
        Check.argument("10 by 4", () -> x.classes(0, 4));
    }

    private static void guesses() {
        Entropiary x = new Entropiary();
        x.table(2, 3);
        Check.unsupported("11 all 0", () -> x.guessesOver(1, 2));
        Check.unsupported("12 all 0", () -> x.guessesUnder(1, 2));
        Check.unsupported("13 all 0", () -> x.hitOver(1, 2));
        Check.unsupported("14 all 0", () -> x.hitUnder(1, 2));
        Check.argument("11 set 4", () -> x.guessesOver(4, 0));
        Check.argument("12 by 4", () -> x.guessesUnder(0, 4));
        Check.argument("13 set -1", () -> x.hitOver(-1, 0));
        Check.argument("14 by -1", () -> x.hitUnder(0, -1));
        x.weigh(0, 1);
        x.weigh(3, 5);
        x.weigh(6, 3);
        x.weigh(1, 3);
        // Seeing variable 1: 5 + 2 * 3 + 3 * 1 of the row 0, 3 of the row 1; hits 5 and 3; of 12.
        Check.due("11 seeing", 17L, () -> x.guessesOver(1, 2));
        Check.due("12 seeing", 12L, () -> x.guessesUnder(1, 2));
        Check.due("13 seeing", 2L, () -> x.hitOver(1, 2));
        Check.due("14 seeing", 3L, () -> x.hitUnder(1, 2));
        // Seeing nothing: rows weigh 4, 5 and 3.
        Check.due("11 blind", 11L, () -> x.guessesOver(1, 0));
        Check.due("12 blind", 6L, () -> x.guessesUnder(1, 0));
        Check.due("13 blind", 5L, () -> x.hitOver(1, 0));
        Check.due("14 blind", 12L, () -> x.hitUnder(1, 0));
        Check.due("11 nothing to guess", 1L, () -> x.guessesOver(0, 2));
        Check.due("12 nothing to guess", 1L, () -> x.guessesUnder(0, 2));
        Check.due("13 nothing to guess", 1L, () -> x.hitOver(0, 0));
        Check.due("14 nothing to guess", 1L, () -> x.hitUnder(0, 0));
        Check.due("11 seen itself", 1L, () -> x.guessesOver(3, 3));
        Check.due("14 seen itself", 1L, () -> x.hitUnder(3, 3));
    }
}
