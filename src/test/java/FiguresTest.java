/** Promises 58 to 61: figures. */
public final class FiguresTest {
    public static void main(String[] args) {
        checksums();
        sharesOfCells();
        meanLengths();
        soundness();
        Check.end();
    }

    private static void checksums() {
        Entropiary x = new Entropiary();
        x.weigh(0, 3);
        x.weigh(1, 4);
        Check.due("58 cells", 97L, x::checksum);
        x.scheme(5);
        x.share(0, 125);
        x.share(1, 250);
        Check.due("58 nothing is dealt", 97L, x::checksum);
        x.deal(2, 1);
        Check.due("58 shares 2 and 4", (97L * 31 + 2) * 31 + 4, x::checksum);
        x.lie(1, 0);
        Check.due("58 as it is told", (97L * 31 + 2) * 31, x::checksum);
        x.share(0, 0);
        Check.due("58 a row more", 97L, x::checksum);
        x.table(4, 3);
        long sum = 0;
        for (int cell = 0; cell < 81; cell++) {
            x.weigh(cell, cell);
            sum = sum * 31 + cell;
        }
        Check.due("58 wraps around", sum, x::checksum);
    }

    private static void sharesOfCells() {
        Entropiary x = new Entropiary();
        Check.due("59 none", 0.0f, x::weightShare);
        x.table(2, 3);
        x.weigh(0, 9);
        x.weigh(8, 1);
        Check.due("59 two of nine", 2.0f / 9.0f, x::weightShare);
        x.weigh(8, 0);
        Check.due("59 one of nine", 1.0f / 9.0f, x::weightShare);
    }

    private static void meanLengths() {
        Entropiary x = new Entropiary();
        Check.none("60 no sign", x::meanLength);
        x.sign(7);
        Check.due("60 one sign", 0.0, x::meanLength);
        x.sign(1);
        Check.due("60 two signs", 1.0, x::meanLength);
        x.sign(1);
        Check.due("60 three signs", 11.0 / 9.0, x::meanLength);
    }

    private static void soundness() {
        Entropiary x = new Entropiary();
        Check.due("61 new", true, x::isSound);
        x.setRank(1, 9);
        Check.due("61 told ranks do not count", true, x::isSound);
        x.factor(7, -9);
        Check.due("61 a law that never holds", true, x::isSound);
        for (int weight = 1; weight <= 8; weight++) {
            x.sign(weight * weight);
            Check.due("61 signs", true, x::isSound);
        }
        x.inputs(5);
        for (int input = 0; input < 5; input++) {
            x.confuse(input, (input + 1) % 5, true);
        }
        Check.due("61 ring of 5", true, x::isSound);
    }
}
