/** The edges of promises 1 to 14: a new object and tables. */
public final class TableEdgesTest {
    private static final int VARIABLES = 4;

    /** The largest table, with weights in two cells. */
    private static final Edges.Use LARGE = x -> {
        x.table(VARIABLES, 3);
        x.weigh(0, 99);
        return x.weigh(80, 1);
    };

    /** The largest table, in which nothing is there. */
    private static final Edges.Use BARE = x -> x.table(VARIABLES, 3);

    public static void main(String[] args) {
        newObject();
        newObjectElsewhere();
        tables();
        cellsAndWeights();
        setsOfChances();
        rowsOfChances();
        fractions();
        setsApart();
        setsOfTwo();
        nothingThere();
        partsAtEdges();
        chainsOfParts();
        classesAtEdges();
        guessesAtEdges();
        Check.end();
    }

    private static void newObject() {
        Edges.due("1 one variable", "throws.IllegalArgumentException", Edges.NEW, x -> x.areApart(2, 0, 0));
        Edges.due("1 the variable 0", true, Edges.NEW, x -> x.areApart(1, 0, 0));
        Edges.due("1 the cell 0", 0, Edges.NEW, x -> x.weigh(0, 1));
        Edges.due("1 the cell 1", 0, Edges.NEW, x -> x.weigh(1, 1));
        Edges.refused("1 no cell 2", Edges.INDEX, Edges.NEW, x -> x.weigh(2, 1));
        Edges.refused("1 two values: the row 1", Edges.UNSUPPORTED, Edges.NEW, x -> x.chanceOver(1, 1));
        Edges.refused("1 two values: no row 2", Edges.INDEX, Edges.NEW, x -> x.chanceOver(1, 2));
        Edges.due("1 no weight", 0.0f, Edges.NEW, Entropiary::weightShare);
        for (int i = 1; i < 8; i++) {
            int set = i;
            Edges.due("1 the factor of " + set, 0, Edges.NEW, x -> x.factor(set, 9));
        }
        Edges.due("1 the prime of vectors", 2, Edges.NEW, x -> x.prime(5));
        for (int i = 0; i < 4; i++) {
            int variable = i;
            Edges.due("1 no vector of " + variable, 1, Edges.NEW, x -> x.vector(variable, 1));
        }
        for (int i = 1; i < 16; i++) {
            int set = i;
            Edges.due("1 no rank of " + set, 0, Edges.NEW, x -> x.rank(set));
            Edges.due("1 told rank of " + set, 0, Edges.NEW, x -> x.setRank(set, 9));
        }
    }

    private static void newObjectElsewhere() {
        Edges.due("1 no arrow", 0, Edges.NEW, Entropiary::keep);
        Edges.refused("1 no graph kept", Edges.STATE, Edges.NEW, Entropiary::isLike);
        Edges.due("1 no tie", 0, Edges.NEW, Entropiary::untie);
        Edges.due("1 no row", 0, Edges.NEW, x -> x.scheme(13));
        Edges.due("1 the prime of rows, its last places", 0, Edges.NEW, x -> x.share(0, 15));
        Edges.refused("1 the prime of rows", Edges.ARGUMENT, Edges.NEW, x -> x.share(0, 16));
        Edges.due("1 no allowed set", 1, Edges.NEW, x -> x.allow(1));
        Edges.due("1 no set is allowed", false, Edges.NEW, x -> x.isAllowed(31));
        Edges.refused("1 nothing is dealt", Edges.STATE, Edges.NEW, x -> x.agree(0));
        Edges.due("1 no sign", 0, Edges.NEW, x -> x.sign(1));
        Edges.due("1 no word", 1L, Edges.NEW, x -> x.intervalUnder(true));
        Edges.due("1 no bit", 1, Edges.NEW, x -> x.bit(0));
        Edges.due("1 no sign and no bit", 0, Edges.NEW, Entropiary::wipe);
        Edges.due("1 one input", 1, Edges.NEW, x -> x.inputs(6));
        Edges.due("1 one receiver", 1, Edges.NEW, x -> x.receivers(4));
        Edges.due("1 who knows nothing", 0, Edges.NEW, x -> x.knows(0, 0));
        Edges.due("1 checksum", 0L, Edges.NEW, Entropiary::checksum);
    }

    private static void tables() {
        int[] cells = {2, 4, 8, 16, 3, 9, 27, 81};
        for (int i = 0; i < 8; i++) {
            int variables = 1 + i % 4;
            int values = 2 + i / 4;
            String name = "2 table(" + variables + ", " + values + ")";
            Edges.due(name, cells[i], Edges.FULL, x -> x.table(variables, values));
            Edges.Use laid = Edges.after(Edges.FULL, x -> x.table(variables, values));
            for (int j = 0; j < cells[i]; j++) {
                int cell = j;
                Edges.due(name + " has no weight in " + cell, 0, laid, x -> x.weigh(cell, 1));
            }
            Edges.range("3 cells of " + name, Edges.INDEX, 0, cells[i] - 1, laid, (x, cell) -> x.weigh(cell, 99));
        }
        for (Edges.Use state : new Edges.Use[] {Edges.NEW, Edges.FULL, LARGE}) {
            Edges.range("2 variables", Edges.ARGUMENT, 1, 4, state, (x, variables) -> x.table(variables, 2));
            Edges.range("2 values", Edges.ARGUMENT, 2, 3, state, (x, values) -> x.table(4, values));
        }
        Edges.refusedAlways("2 both below", Edges.ARGUMENT, x -> x.table(0, 1));
        Edges.refusedAlways("2 both above", Edges.ARGUMENT, x -> x.table(5, 4));
        Edges.due("2 a table again", 0, Edges.after(LARGE, BARE), x -> x.weigh(80, 0));
    }

    private static void cellsAndWeights() {
        Edges.range("3 weights, new", Edges.ARGUMENT, 0, 99, Edges.NEW, (x, weight) -> x.weigh(1, weight));
        Edges.range("3 weights, full", Edges.ARGUMENT, 0, 99, Edges.FULL, (x, weight) -> x.weigh(7, weight));
        Edges.range("3 weights, large", Edges.ARGUMENT, 0, 99, LARGE, (x, weight) -> x.weigh(80, weight));
        Edges.refusedAlways("3 no cell below, weight below", Edges.INDEX, x -> x.weigh(-1, -1));
        Edges.refusedAlways("3 no cell above, weight above", Edges.INDEX, x -> x.weigh(9, 100));
        Edges.refusedAlways("3 no cell, weight in range", Edges.INDEX, x -> x.weigh(81, 99));
        Edges.due("3 the least weight before", 0, Edges.FULL, x -> x.weigh(1, 99));
        Edges.due("3 the greatest weight before", 99, LARGE, x -> x.weigh(0, 0));
        Edges.due("3 the weight before, put again", 5, Edges.FULL, x -> x.weigh(7, 5));
        Edges.due("3 a weight of 99", 99, x -> x.weigh(1, 99), x -> x.weigh(1, 0));
    }

    /** Sets of variables, for each number of variables: from none of them to all. */
    private static void setsOfChances() {
        for (int i = 1; i <= VARIABLES; i++) {
            int last = (1 << i) - 1;
            int variables = i;
            Edges.Use laid = x -> {
                x.table(variables, 2);
                return x.weigh(0, 1);
            };
            String of = " of " + variables;
            Edges.range("4 sets" + of, Edges.ARGUMENT, 0, last, laid, (x, set) -> x.chanceOver(set, 0));
            Edges.range("5 sets" + of, Edges.ARGUMENT, 0, last, laid, (x, set) -> x.chanceUnder(set, 0));
            Edges.range("6 first" + of, Edges.ARGUMENT, 0, last, laid, (x, set) -> x.areApart(set, 0, 0));
            Edges.range("6 second" + of, Edges.ARGUMENT, 0, last, laid, (x, set) -> x.areApart(0, set, 0));
            Edges.range("6 third" + of, Edges.ARGUMENT, 0, last, laid, (x, set) -> x.areApart(0, 0, set));
        }
        Edges.Use[] states = {Edges.NEW, Edges.FULL, BARE};
        for (Edges.Use state : states) {
            for (int set : new int[] {-1, 16, Integer.MIN_VALUE, Integer.MAX_VALUE}) {
                Edges.refused("4 no set, no row", Edges.ARGUMENT, state, x -> x.chanceOver(set, -1));
                Edges.refused("5 no set, no row", Edges.ARGUMENT, state, x -> x.chanceUnder(set, 81));
                Edges.refused("4 no set, row there", Edges.ARGUMENT, state, x -> x.chanceOver(set, 0));
                Edges.refused("5 no set, row there", Edges.ARGUMENT, state, x -> x.chanceUnder(set, 0));
            }
        }
    }

    private static void rowsOfChances() {
        for (int i = 0; i < 16; i++) {
            int set = i;
            int twos = 1 << Integer.bitCount(set);
            int[] threes = {1, 3, 9, 27, 81};
            int last = threes[Integer.bitCount(set)] - 1;
            Edges.Use two = x -> {
                x.table(VARIABLES, 2);
                return x.weigh(15, 1);
            };
            Edges.range("4 rows of " + set, Edges.INDEX, 0, twos - 1, two, (x, row) -> x.chanceOver(set, row));
            Edges.range("5 rows of " + set, Edges.INDEX, 0, last, LARGE, (x, row) -> x.chanceUnder(set, row));
        }
        Edges.refused("4 no row below, all 0", Edges.INDEX, BARE, x -> x.chanceOver(15, -1));
        Edges.refused("5 no row above, all 0", Edges.INDEX, BARE, x -> x.chanceUnder(15, 81));
        Edges.refused("4 no variables, row 1, all 0", Edges.INDEX, BARE, x -> x.chanceOver(0, 1));
        Edges.refused("5 no variables, row 1, all 0", Edges.INDEX, Edges.NEW, x -> x.chanceUnder(0, 1));
        Edges.refused("4 the first row, all 0", Edges.UNSUPPORTED, BARE, x -> x.chanceOver(15, 0));
        Edges.refused("5 the last row, all 0", Edges.UNSUPPORTED, BARE, x -> x.chanceUnder(15, 80));
        Edges.refused("4 no variables, all 0", Edges.UNSUPPORTED, Edges.NEW, x -> x.chanceOver(0, 0));
        Edges.refused("5 no variables, all 0", Edges.UNSUPPORTED, Edges.NEW, x -> x.chanceUnder(0, 0));
        Edges.Use undone = Edges.after(LARGE, x -> x.weigh(0, 0) + x.weigh(80, 0));
        Edges.refused("4 all 0 again", Edges.UNSUPPORTED, undone, x -> x.chanceOver(1, 0));
        Edges.refused("5 all 0 again", Edges.UNSUPPORTED, undone, x -> x.chanceUnder(1, 0));
    }

    private static void fractions() {
        Edges.due("4 nothing, upper", 0L, LARGE, x -> x.chanceOver(15, 40));
        Edges.due("5 nothing is 0 by 1", 1L, LARGE, x -> x.chanceUnder(15, 40));
        Edges.due("4 all, upper", 1L, LARGE, x -> x.chanceOver(0, 0));
        Edges.due("5 all is 1 by 1", 1L, LARGE, x -> x.chanceUnder(0, 0));
        Edges.due("4 already lowest, upper", 99L, LARGE, x -> x.chanceOver(15, 0));
        Edges.due("5 already lowest, lower", 100L, LARGE, x -> x.chanceUnder(15, 0));
        Edges.Use even = Edges.after(LARGE, x -> x.weigh(80, 33));
        Edges.due("4 lowest terms, upper", 3L, even, x -> x.chanceOver(8, 0));
        Edges.due("5 lowest terms, lower", 4L, even, x -> x.chanceUnder(8, 0));
        Edges.Use heaviest = x -> {
            x.table(VARIABLES, 3);
            for (int cell = 0; cell < 81; cell++) {
                x.weigh(cell, 99);
            }
            return null;
        };
        Edges.due("4 all weights 99, upper", 1L, heaviest, x -> x.chanceOver(15, 80));
        Edges.due("5 all weights 99, lower", 81L, heaviest, x -> x.chanceUnder(15, 80));
        Edges.due("6 all weights 99", true, heaviest, x -> x.areApart(3, 4, 8));
        Edges.due("11 all weights 99, upper", 41L, heaviest, x -> x.guessesOver(15, 0));
        Edges.due("12 all weights 99, lower", 1L, heaviest, x -> x.guessesUnder(15, 0));
        Edges.due("13 all weights 99, upper", 1L, heaviest, x -> x.hitOver(15, 0));
        Edges.due("14 all weights 99, lower", 81L, heaviest, x -> x.hitUnder(15, 0));
        rowsBeginWithTheLowestVariable();
    }

    private static void rowsBeginWithTheLowestVariable() {
        // The cell 27 is 1 0 0 0, the cell 1 is 0 0 0 1.
        Edges.Use first = x -> {
            x.table(VARIABLES, 3);
            return x.weigh(27, 1);
        };
        Edges.due("4 the variable 0 is highest in a cell", 1L, first, x -> x.chanceOver(1, 1));
        Edges.due("4 the lowest variable is highest in a row", 1L, first, x -> x.chanceOver(9, 3));
        Edges.Use last = x -> {
            x.table(VARIABLES, 3);
            return x.weigh(1, 1);
        };
        Edges.due("4 the variable 3 is lowest in a cell", 1L, last, x -> x.chanceOver(8, 1));
        Edges.due("4 the highest variable is lowest in a row", 1L, last, x -> x.chanceOver(9, 1));
    }

    private static void setsApart() {
        int[] none = {-1, 16, Integer.MIN_VALUE, Integer.MAX_VALUE};
        for (int set : none) {
            Edges.refused("6 no first set", Edges.ARGUMENT, LARGE, x -> x.areApart(set, 2, 4));
            Edges.refused("6 no second set", Edges.ARGUMENT, LARGE, x -> x.areApart(1, set, 4));
            Edges.refused("6 no third set", Edges.ARGUMENT, LARGE, x -> x.areApart(1, 2, set));
            Edges.refused("6 no set at all", Edges.ARGUMENT, LARGE, x -> x.areApart(set, set, set));
        }
        for (int i = 0; i < VARIABLES; i++) {
            int one = 1 << i;
            Edges.refused("6 first and second have " + i, Edges.ARGUMENT, LARGE, x -> x.areApart(one, one, 0));
            Edges.refused("6 first and third have " + i, Edges.ARGUMENT, LARGE, x -> x.areApart(one, 0, one));
            Edges.refused("6 second and third have " + i, Edges.ARGUMENT, LARGE, x -> x.areApart(0, one, one));
            Edges.refused("6 all have " + i, Edges.ARGUMENT, BARE, x -> x.areApart(one, one, one));
        }
        Edges.due("6 nothing is there", true, BARE, x -> x.areApart(1, 2, 12));
        Edges.due("6 no first variables", true, LARGE, x -> x.areApart(0, 3, 12));
        Edges.due("6 no second variables", true, LARGE, x -> x.areApart(3, 0, 12));
        Edges.due("6 no third variables, not apart", false, LARGE, x -> x.areApart(3, 12, 0));
        Edges.Use one = Edges.after(LARGE, x -> x.weigh(0, 0));
        Edges.due("6 no third variables, apart", true, one, x -> x.areApart(3, 12, 0));
        Edges.due("6 no variables at all", true, LARGE, x -> x.areApart(0, 0, 0));
        Edges.due("6 by all others", true, LARGE, x -> x.areApart(1, 2, 12));
        // Apart but for one: the weights 2 3 4 6 are, 2 3 4 5 and 2 3 4 7 are not.
        for (int last = 5; last <= 7; last++) {
            int weight = last;
            Edges.Use four = x -> {
                x.table(2, 2);
                return x.weigh(0, 2) + x.weigh(1, 3) + x.weigh(2, 4) + x.weigh(3, weight);
            };
            Edges.due("6 weights 2 3 4 " + last, last == 6, four, x -> x.areApart(1, 2, 0));
        }
    }

    /** The calls of two sets, which may have some of the same variables. */
    private static void setsOfTwo() {
        for (int i = 1; i <= VARIABLES; i++) {
            int variables = i;
            int last = (1 << i) - 1;
            Edges.Use laid = x -> {
                x.table(variables, 3);
                return x.weigh(0, 1);
            };
            Edges.range("7 sets", Edges.ARGUMENT, 0, last, laid, (x, set) -> x.isTold(set, last));
            Edges.range("7 by", Edges.ARGUMENT, 0, last, laid, (x, set) -> x.isTold(last, set));
            Edges.range("8 sets", Edges.ARGUMENT, 0, last, laid, (x, set) -> x.parts(set, last));
            Edges.range("8 by", Edges.ARGUMENT, 0, last, laid, (x, set) -> x.parts(last, set));
            Edges.range("9 sets", Edges.ARGUMENT, 0, last, laid, (x, set) -> x.partOf(set, last, 0));
            Edges.range("9 by", Edges.ARGUMENT, 0, last, laid, (x, set) -> x.partOf(last, set, 0));
            Edges.range("10 sets", Edges.ARGUMENT, 0, last, laid, (x, set) -> x.classes(set, last));
            Edges.range("10 by", Edges.ARGUMENT, 0, last, laid, (x, set) -> x.classes(last, set));
            Edges.range("11 sets", Edges.ARGUMENT, 0, last, laid, (x, set) -> x.guessesOver(set, last));
            Edges.range("11 by", Edges.ARGUMENT, 0, last, laid, (x, set) -> x.guessesOver(last, set));
            Edges.range("12 sets", Edges.ARGUMENT, 0, last, laid, (x, set) -> x.guessesUnder(set, last));
            Edges.range("12 by", Edges.ARGUMENT, 0, last, laid, (x, set) -> x.guessesUnder(last, set));
            Edges.range("13 sets", Edges.ARGUMENT, 0, last, laid, (x, set) -> x.hitOver(set, last));
            Edges.range("13 by", Edges.ARGUMENT, 0, last, laid, (x, set) -> x.hitOver(last, set));
            Edges.range("14 sets", Edges.ARGUMENT, 0, last, laid, (x, set) -> x.hitUnder(set, last));
            Edges.range("14 by", Edges.ARGUMENT, 0, last, laid, (x, set) -> x.hitUnder(last, set));
        }
    }

    private static void nothingThere() {
        Edges.due("7 nothing is there", true, BARE, x -> x.isTold(15, 0));
        Edges.due("7 nothing is there, new", true, Edges.NEW, x -> x.isTold(1, 0));
        Edges.due("8 nothing is there", 0, BARE, x -> x.parts(15, 15));
        Edges.due("8 nothing is there, no variables", 0, BARE, x -> x.parts(0, 0));
        Edges.due("10 nothing is there", 0, BARE, x -> x.classes(15, 15));
        Edges.due("10 nothing is there, no variables", 0, BARE, x -> x.classes(0, 0));
        Edges.refused("9 nothing is there", Edges.NONE, BARE, x -> x.partOf(15, 15, 80));
        Edges.refused("9 nothing is there, no variables", Edges.NONE, BARE, x -> x.partOf(0, 0, 0));
        Edges.Use[] nothing = {Edges.NEW, BARE, Edges.after(LARGE, x -> x.weigh(0, 0) + x.weigh(80, 0))};
        for (Edges.Use state : nothing) {
            for (int i = 0; i < 4; i++) {
                int set = i % 2;
                int by = i / 2;
                Edges.refused("11 all 0", Edges.UNSUPPORTED, state, x -> x.guessesOver(set, by));
                Edges.refused("12 all 0", Edges.UNSUPPORTED, state, x -> x.guessesUnder(set, by));
                Edges.refused("13 all 0", Edges.UNSUPPORTED, state, x -> x.hitOver(set, by));
                Edges.refused("14 all 0", Edges.UNSUPPORTED, state, x -> x.hitUnder(set, by));
            }
            for (int set : new int[] {-1, 16}) {
                Edges.refused("11 no set, all 0", Edges.ARGUMENT, state, x -> x.guessesOver(set, 0));
                Edges.refused("11 no by, all 0", Edges.ARGUMENT, state, x -> x.guessesOver(0, set));
                Edges.refused("12 no set, all 0", Edges.ARGUMENT, state, x -> x.guessesUnder(set, 0));
                Edges.refused("12 no by, all 0", Edges.ARGUMENT, state, x -> x.guessesUnder(0, set));
                Edges.refused("13 no set, all 0", Edges.ARGUMENT, state, x -> x.hitOver(set, 0));
                Edges.refused("13 no by, all 0", Edges.ARGUMENT, state, x -> x.hitOver(0, set));
                Edges.refused("14 no set, all 0", Edges.ARGUMENT, state, x -> x.hitUnder(set, 0));
                Edges.refused("14 no by, all 0", Edges.ARGUMENT, state, x -> x.hitUnder(0, set));
            }
        }
    }

    private static void partsAtEdges() {
        int[] threes = {1, 3, 9, 27, 81};
        for (int i = 0; i < 16; i++) {
            int set = i;
            int rows = threes[Integer.bitCount(set)];
            for (int row : new int[] {-1, rows, Integer.MIN_VALUE, Integer.MAX_VALUE}) {
                Edges.refused("9 no row of " + set, Edges.INDEX, LARGE, x -> x.partOf(set, 15, row));
                Edges.refused("9 no row, nothing there", Edges.INDEX, BARE, x -> x.partOf(set, 15, row));
                Edges.refused("9 no by, no row", Edges.ARGUMENT, LARGE, x -> x.partOf(set, 16, row));
                Edges.refused("9 no set, no row", Edges.ARGUMENT, LARGE, x -> x.partOf(-1, set, row));
            }
            Edges.due("9 the first row of " + set, 0, LARGE, x -> x.partOf(set, 15, 0));
            Edges.due("9 the last row of " + set, set == 0 ? 0 : 1, LARGE, x -> x.partOf(set, 15, rows - 1));
            if (set != 0) {
                Edges.refused("9 a row of " + set + " is not there", Edges.NONE, LARGE, x -> x.partOf(set, 15, 1));
            }
        }
        Edges.refused("9 no set, a row that is not there", Edges.ARGUMENT, Edges.FULL, x -> x.partOf(4, 1, 1));
        Edges.refused("9 a row that is not there", Edges.NONE, Edges.FULL, x -> x.partOf(1, 2, 1));
        // The row is one of the first set: the second one has more of them, or fewer.
        Edges.refused("9 a row of the other set", Edges.INDEX, LARGE, x -> x.partOf(1, 15, 3));
        Edges.due("9 a row that the other set has not", 0, LARGE, x -> x.partOf(15, 0, 80));
        Edges.due("8 without variables to be told by", 1, LARGE, x -> x.parts(15, 0));
        Edges.due("8 without variables", 1, LARGE, x -> x.parts(0, 0));
        Edges.due("8 all by all", 2, LARGE, x -> x.parts(15, 15));
        Edges.due("7 all by all", true, LARGE, x -> x.isTold(15, 15));
        Edges.due("7 one row for another", true, LARGE, x -> x.isTold(14, 1));
        Edges.due("7 two rows for one", false, Edges.after(LARGE, x -> x.weigh(1, 1)), x -> x.isTold(14, 1));
        Edges.due("7 no variables to be told", true, LARGE, x -> x.isTold(0, 15));
        Edges.due("7 without variables to be told by", false, LARGE, x -> x.isTold(15, 0));
        Edges.due("7 one row, without variables", true, Edges.after(LARGE, x -> x.weigh(0, 0)), x -> x.isTold(15, 0));
    }

    /** Cells that are not there join nothing; a part may be held together by as long a chain as there are rows. */
    private static void chainsOfParts() {
        Edges.Use apart = x -> {
            x.table(2, 2);
            return x.weigh(0, 1) + x.weigh(3, 1);
        };
        Edges.due("8 a weight of 0 joins nothing", 2, apart, x -> x.parts(1, 2));
        Edges.due("9 a weight of 0 joins nothing", 1, apart, x -> x.partOf(1, 2, 1));
        Edges.Use joined = Edges.after(apart, x -> x.weigh(1, 1));
        Edges.due("8 a weight of 1 joins", 1, joined, x -> x.parts(1, 2));
        Edges.due("9 a weight of 1 joins", 0, joined, x -> x.partOf(1, 2, 1));
        for (int i = 0; i <= 8; i++) {
            int gap = i;
            Edges.Use chain = x -> layChain(x, gap);
            Edges.due("8 a chain with a gap at " + i, gap < 8 ? 2 : 1, chain, x -> x.parts(3, 12));
            Edges.due("8 the other way, a gap at " + i, gap < 8 ? 2 : 1, chain, x -> x.parts(12, 3));
            for (int j = 0; j < 9; j++) {
                int row = j;
                boolean isBefore = gap < 8 && 8 - row <= gap;
                Edges.due("9 a chain with a gap at " + i, isBefore ? 1 : 0, chain, x -> x.partOf(3, 12, row));
            }
        }
    }

    /** Nine rows of each of two sets; the chain begins with the highest row of the first one, and has a gap or none. */
    private static Object layChain(Entropiary x, int gap) {
        x.table(VARIABLES, 3);
        for (int place = 0; place < 9; place++) {
            int row = 8 - place;
            x.weigh(9 * row + place, 1);
            if (place > 0 && place - 1 != gap) {
                x.weigh(9 * row + place - 1, 1);
            }
        }
        return null;
    }

    private static void classesAtEdges() {
        Edges.due("10 about no variables", 1, LARGE, x -> x.classes(15, 0));
        Edges.due("10 of no variables", 1, LARGE, x -> x.classes(0, 15));
        Edges.due("10 all about all", 2, LARGE, x -> x.classes(15, 15));
        // The rows 1 2 and 2 4 are of one class, the rows 1 2 and 2 5 are not.
        for (int last = 3; last <= 5; last++) {
            int weight = last;
            Edges.Use four = x -> {
                x.table(2, 2);
                return x.weigh(0, 1) + x.weigh(1, 2) + x.weigh(2, 2) + x.weigh(3, weight);
            };
            Edges.due("10 rows 1 2 and 2 " + last, last == 4 ? 1 : 2, four, x -> x.classes(1, 2));
        }
        Edges.Use light = x -> {
            x.table(2, 2);
            return x.weigh(0, 1) + x.weigh(2, 1);
        };
        Edges.due("10 two rows of weight 1", 1, light, x -> x.classes(1, 2));
        Edges.due("10 one row of weight 1", 1, light, x -> x.classes(2, 1));
        Edges.due("10 a row that is not there", 2, Edges.FULL, x -> x.classes(1, 2));
    }

    private static void guessesAtEdges() {
        Edges.Use one = x -> {
            x.table(VARIABLES, 3);
            return x.weigh(40, 99);
        };
        for (int i = 0; i < 16; i++) {
            int set = i;
            int by = 15 - i;
            Edges.due("11 one cell", 1L, one, x -> x.guessesOver(set, by));
            Edges.due("12 one cell", 1L, one, x -> x.guessesUnder(set, by));
            Edges.due("13 one cell", 1L, one, x -> x.hitOver(set, by));
            Edges.due("14 one cell", 1L, one, x -> x.hitUnder(set, by));
            Edges.due("11 no variables to be guessed", 1L, LARGE, x -> x.guessesOver(0, by));
            Edges.due("12 no variables to be guessed", 1L, LARGE, x -> x.guessesUnder(0, by));
            Edges.due("13 no variables to be guessed", 1L, LARGE, x -> x.hitOver(0, by));
            Edges.due("14 no variables to be guessed", 1L, LARGE, x -> x.hitUnder(0, by));
        }
        Edges.due("11 no variables to be seen", 101L, LARGE, x -> x.guessesOver(15, 0));
        Edges.due("12 no variables to be seen", 100L, LARGE, x -> x.guessesUnder(15, 0));
        Edges.due("13 no variables to be seen", 99L, LARGE, x -> x.hitOver(15, 0));
        Edges.due("14 no variables to be seen", 100L, LARGE, x -> x.hitUnder(15, 0));
        Edges.Use even = Edges.after(LARGE, x -> x.weigh(80, 99));
        Edges.due("11 of the same weight", 3L, even, x -> x.guessesOver(15, 0));
        Edges.due("12 of the same weight", 2L, even, x -> x.guessesUnder(15, 0));
        Edges.due("13 of the same weight", 1L, even, x -> x.hitOver(15, 0));
        Edges.due("14 of the same weight", 2L, even, x -> x.hitUnder(15, 0));
    }
}
