import java.math.BigInteger;
import java.util.Arrays;

/** The edges of promises 58 to 61: figures. */
public final class FigureEdgesTest {
    private static final int[] CELLS = {2, 4, 8, 16, 3, 9, 27, 81};

    public static void main(String[] args) {
        sumsOfCells();
        sumsOfShares();
        sharesOfCells();
        meanLengths();
        soundness();
        aWholeRun();
        Check.end();
    }

    /** What a sum in a long that wraps around comes to. */
    private static long wrapped(int[] numbers) {
        BigInteger sum = BigInteger.ZERO;
        for (int number : numbers) {
            sum = sum.multiply(BigInteger.valueOf(31)).add(BigInteger.valueOf(number));
        }
        return sum.longValue();
    }

    private static Edges.Use table(int number, int[] weights) {
        return x -> {
            x.table(1 + number % 4, 2 + number / 4);
            for (int cell = 0; cell < weights.length; cell++) {
                x.weigh(cell, weights[cell]);
            }
            return null;
        };
    }

    private static void sumsOfCells() {
        Edges.due("58 no weight", 0L, Edges.NEW, Entropiary::checksum);
        for (int i = 0; i < CELLS.length; i++) {
            int[] heaviest = new int[CELLS[i]];
            int[] rising = new int[CELLS[i]];
            for (int cell = 0; cell < CELLS[i]; cell++) {
                heaviest[cell] = 99;
                rising[cell] = cell;
            }
            Edges.due("58 weights 99 in " + CELLS[i], wrapped(heaviest), table(i, heaviest), Entropiary::checksum);
            Edges.due("58 weights rising in " + CELLS[i], wrapped(rising), table(i, rising), Entropiary::checksum);
            int[] first = new int[CELLS[i]];
            first[0] = 1;
            Edges.due("58 the first cell of " + CELLS[i], wrapped(first), table(i, first), Entropiary::checksum);
        }
        // 9 times 31 to the power of 13 is more than a long holds.
        Edges.due("58 wraps below 0", true, table(3, new int[] {0, 0, 9}), x -> x.checksum() < 0);
    }

    private static void sumsOfShares() {
        int[] cells = new int[81];
        Arrays.fill(cells, 99);
        int[] both = Arrays.copyOf(cells, 91);
        Arrays.fill(both, 81, 91, 12);
        Edges.Use heavy = table(7, cells);
        Edges.Use rows = Edges.after(heavy, x -> {
            x.scheme(13);
            for (int row = 0; row < 10; row++) {
                x.share(0, 2197);
            }
            return null;
        });
        Edges.due("58 rows, nothing dealt", wrapped(cells), rows, Entropiary::checksum);
        Edges.Use dealt = Edges.after(rows, x -> x.deal(12, 0));
        Edges.due("58 ten shares", wrapped(both), dealt, Entropiary::checksum);
        both[90] = 0;
        Edges.due("58 a share told falsely", wrapped(both), Edges.after(dealt, x -> x.lie(9, 0)), Entropiary::checksum);
        Edges.due("58 dealt without rows", wrapped(cells), Edges.after(heavy, x -> x.deal(1, 1)), Entropiary::checksum);
        Edges.due("58 dealing undone", wrapped(cells), Edges.after(dealt, x -> x.scheme(13)), Entropiary::checksum);
        Edges.due("58 a share of 0", 0L, x -> x.share(0, 0) + x.deal(1, 1), Entropiary::checksum);
        Edges.due("58 shares alone", 31L * 31 + 1,
                x -> x.share(0, 8) + x.share(0, 0) + x.share(0, 8) + x.deal(1, 1), Entropiary::checksum);
    }

    private static void sharesOfCells() {
        for (int i = 0; i < CELLS.length; i++) {
            for (int j = 0; j <= CELLS[i]; j++) {
                int[] weights = new int[CELLS[i]];
                for (int cell = 0; cell < j; cell++) {
                    weights[cell] = cell % 2 == 0 ? 1 : 99;
                }
                float due = (float) j / (float) CELLS[i];
                Edges.due("59 " + j + " of " + CELLS[i], due, table(i, weights), Entropiary::weightShare);
            }
        }
        Edges.due("59 no weight", 0.0f, Edges.NEW, Entropiary::weightShare);
        Edges.due("59 a weight taken back", 0.5f, x -> x.weigh(0, 1) + x.weigh(1, 1) + x.weigh(1, 0),
                Entropiary::weightShare);
    }

    private static void meanLengths() {
        Edges.refused("60 no sign", Edges.NONE, Edges.NEW, Entropiary::meanLength);
        Edges.refused("60 no sign, wiped", Edges.NONE, Edges.after(Edges.FULL, Entropiary::wipe),
                Entropiary::meanLength);
        Edges.due("60 one sign, the least", 0.0, x -> x.sign(1), Entropiary::meanLength);
        Edges.due("60 one sign, the greatest", 0.0, x -> x.sign(99), Entropiary::meanLength);
        Edges.due("60 two signs", 1.0, x -> x.sign(1) + x.sign(99), Entropiary::meanLength);
        Edges.due("60 three signs", 5.0 / 3.0, x -> x.sign(7) + x.sign(7) + x.sign(7), Entropiary::meanLength);
        Edges.due("60 a mean that no double has", 103.0 / 101.0, x -> x.sign(99) + x.sign(1) + x.sign(1),
                Entropiary::meanLength);
        Edges.due("60 eight signs", 3.0, x -> {
            for (int i = 0; i < 8; i++) {
                x.sign(99);
            }
            return null;
        }, Entropiary::meanLength);
    }

    private static void soundness() {
        Edges.due("61 a new object", true, Edges.NEW, Entropiary::isSound);
        Edges.due("61 a full one", true, Edges.FULL, Entropiary::isSound);
        for (int many = 0; many <= 8; many++) {
            int signs = many;
            Edges.Use some = x -> {
                for (int i = 0; i < signs; i++) {
                    x.sign(i % 2 == 0 ? 99 : 1 + i);
                }
                return null;
            };
            Edges.due("61 signs: " + many, true, some, Entropiary::isSound);
        }
        Edges.due("61 lengths up to seven", true, x -> x.sign(1) + x.sign(1) + x.sign(2) + x.sign(4) + x.sign(8)
                + x.sign(16) + x.sign(32) + x.sign(64), Entropiary::isSound);
        for (int i = 1; i < 8; i++) {
            int set = i;
            Edges.due("61 a law that does not hold", true, x -> x.factor(set, -9), Entropiary::isSound);
            Edges.due("61 a law that holds", true, x -> x.factor(set, 9), Entropiary::isSound);
        }
        Edges.due("61 an Ingleton value told below 0", true, x -> x.setRank(1, 9), Entropiary::isSound);
        Edges.Use above = x -> x.vector(0, 8) + x.vector(1, 4) + x.vector(2, 12);
        Edges.due("23 an Ingleton value by vectors above 0", 1, above, x -> x.ingleton(false));
        Edges.due("61 an Ingleton value by vectors above 0", true, above, Entropiary::isSound);
        Edges.Use below = x -> x.factor(1, -1);
        Edges.due("16 a law just below 0", -1, below, x -> x.worst(1));
        Edges.due("61 a law just below 0", true, below, Entropiary::isSound);
        for (int i = 1; i <= 6; i++) {
            int many = i;
            Edges.due("61 inputs: " + i, true, x -> x.inputs(many), Entropiary::isSound);
        }
    }

    /** The 512th call still counts. */
    private static void aWholeRun() {
        Entropiary x = new Entropiary();
        for (int call = 1; call <= 510; call++) {
            int weight = call % 100;
            int before = call == 1 ? 0 : (call - 1) % 100;
            Check.due("3 call " + call, before, () -> x.weigh(1, weight));
        }
        Check.index("3 call 511", () -> x.weigh(2, 100));
        Check.due("58 call 512", 10L, x::checksum);
    }
}
