/** Promises 31 to 41: secrets. */
public final class SecretsTest {
    public static void main(String[] args) {
        schemes();
        openingSets();
        allowedSets();
        dealing();
        lying();
        opening();
        Check.end();
    }

    private static void schemes() {
        Entropiary x = new Entropiary();
        int[] primes = {2, 3, 5, 7, 11, 13};
        for (int prime : primes) {
            Check.due("31 scheme(" + prime + ")", 0, () -> x.scheme(prime));
            Check.argument("32 too much for " + prime, () -> x.share(0, prime * prime * prime * prime));
        }
        for (int i = 0; i < 10; i++) {
            int row = i;
            Check.due("32 row " + row, row, () -> x.share(row % 5, 28560 - row));
        }
        Check.state("32 an eleventh", () -> x.share(0, 0));
        Check.argument("32 an eleventh, out of range", () -> x.share(4, 28561));
        Check.argument("32 below 0", () -> x.share(4, -1));
        Check.index("32 party 5", () -> x.share(5, -1));
        Check.index("32 party -1", () -> x.share(-1, 0));
        Check.argument("31 scheme(4)", () -> x.scheme(4));
        Check.argument("31 scheme(17)", () -> x.scheme(17));
        Check.argument("31 scheme(0)", () -> x.scheme(0));
        Check.due("31 rows before", 10, () -> x.scheme(2));
        Check.due("31 none then", 0, () -> x.scheme(2));
    }

    /** Lines through the secret, modulo 5: any two of the parties 0 to 2 open. */
    private static Entropiary threshold() {
        Entropiary x = new Entropiary();
        x.scheme(5);
        x.share(0, 150);
        x.share(1, 175);
        x.share(2, 200);
        return x;
    }

    private static void openingSets() {
        Entropiary x = threshold();
        Check.due("33 none", false, () -> x.opens(0));
        Check.due("33 one", false, () -> x.opens(4));
        Check.due("33 two", true, () -> x.opens(5));
        Check.due("33 all", true, () -> x.opens(31));
        Check.due("33 without rows", false, () -> x.opens(24));
        Check.argument("33 opens(32)", () -> x.opens(32));
        Check.argument("33 opens(-1)", () -> x.opens(-1));
        x.share(3, 250);
        Check.due("33 twice the secret", true, () -> x.opens(8));
        x.share(4, 126);
        x.share(4, 1);
        Check.due("33 two rows of one", true, () -> x.opens(16));
    }

    private static void allowedSets() {
        Entropiary x = threshold();
        Check.due("36 opens, not allowed", 3, x::misfit);
        Check.due("34 allow(3)", 1, () -> x.allow(3));
        Check.due("34 allow(5)", 2, () -> x.allow(5));
        Check.due("35 a told one", true, () -> x.isAllowed(3));
        Check.due("35 more", true, () -> x.isAllowed(29));
        Check.due("35 less", false, () -> x.isAllowed(6));
        Check.due("35 none", false, () -> x.isAllowed(0));
        Check.argument("35 isAllowed(32)", () -> x.isAllowed(32));
        Check.argument("35 isAllowed(-1)", () -> x.isAllowed(-1));
        Check.due("36 the lowest left", 6, x::misfit);
        Check.due("34 allow(6)", 3, () -> x.allow(6));
        Check.none("36 none left", x::misfit);
        Check.due("34 allow(16)", 4, () -> x.allow(16));
        Check.due("36 allowed, does not open", 16, x::misfit);
        Check.argument("34 allow(0)", () -> x.allow(0));
        Check.argument("34 allow(32)", () -> x.allow(32));
        for (int i = 5; i <= 10; i++) {
            int told = i;
            Check.due("34 the same again", told, () -> x.allow(16));
        }
        Check.state("34 an eleventh", () -> x.allow(1));
        Check.argument("34 an eleventh, out of range", () -> x.allow(0));
        x.scheme(5);
        Check.due("31 no allowed sets then", false, () -> x.isAllowed(31));
        Check.none("36 nothing at all", x::misfit);
    }

    private static void dealing() {
        Entropiary x = threshold();
        Check.state("38 nothing is dealt", () -> x.shareAt(-1));
        Check.argument("37 secret 5", () -> x.deal(5, 0));
        Check.argument("37 secret -1", () -> x.deal(-1, 0));
        Check.argument("37 seed -1", () -> x.deal(0, -1));
        Check.argument("37 seed 100000", () -> x.deal(0, 100000));
        Check.state("37 still nothing is dealt", () -> x.shareAt(0));
        x.share(3, 25);
        x.share(3, 5);
        x.share(3, 1);
        Check.due("37 deal(3, 99999)", 6, () -> x.deal(3, 99999));
        long z = 99999;
        for (int row = 3; row < 6; row++) {
            z = (z * 1103515245L + 12345L) & 0x7fffffffL;
            int at = row;
            int drawn = (int) ((z >> 16) % 5);
            Check.due("38 draw " + row, drawn, () -> x.shareAt(at));
        }
        Check.index("38 row 6", () -> x.shareAt(6));
        Check.index("38 row -1", () -> x.shareAt(-1));
        Check.due("37 dealt anew", 6, () -> x.deal(4, 0));
        // The seed 0 draws 0 first: 12345 is below 65536.
        Check.due("38 dealt anew", 0, () -> x.shareAt(3));
        Check.due("38 the secret in a share", 4, () -> x.shareAt(0));
        Check.argument("37 refused", () -> x.deal(5, 1));
        Check.due("37 dealt stays", 4, () -> x.shareAt(0));
        Check.argument("32 refused", () -> x.share(0, 625));
        Check.due("32 dealt stays", 4, () -> x.shareAt(0));
        Check.argument("31 refused", () -> x.scheme(6));
        Check.due("31 dealt stays", 4, () -> x.shareAt(0));
        x.allow(1);
        Check.due("34 dealt stays", 4, () -> x.shareAt(0));
        x.share(0, 0);
        Check.state("32 a row more", () -> x.shareAt(0));
        x.deal(1, 1);
        x.scheme(5);
        Check.state("31 a new scheme", () -> x.shareAt(0));
        Check.due("37 without rows", 0, () -> x.deal(1, 1));
        Check.index("38 without rows", () -> x.shareAt(0));
    }

    private static void lying() {
        Entropiary x = threshold();
        Check.state("39 nothing is dealt", () -> x.lie(9, 9));
        Check.state("40 nothing is dealt", () -> x.agree(99));
        x.deal(3, 17);
        int before = x.shareAt(1);
        Check.due("40 as dealt", true, () -> x.agree(31));
        Check.index("39 row 3", () -> x.lie(3, 9));
        Check.index("39 row -1", () -> x.lie(-1, 0));
        Check.argument("39 share 5", () -> x.lie(1, 5));
        Check.argument("39 share -1", () -> x.lie(1, -1));
        Check.due("39 lie", before, () -> x.lie(1, (before + 1) % 5));
        Check.due("39 told falsely", (before + 1) % 5, () -> x.shareAt(1));
        Check.due("40 three do not", false, () -> x.agree(7));
        Check.due("40 two do", true, () -> x.agree(3));
        Check.due("40 none do", true, () -> x.agree(0));
        Check.argument("40 agree(32)", () -> x.agree(32));
        Check.argument("40 agree(-1)", () -> x.agree(-1));
        Check.due("39 truth again", (before + 1) % 5, () -> x.lie(1, before));
        Check.due("40 three do again", true, () -> x.agree(7));
        x.scheme(3);
        x.share(0, 0);
        x.deal(2, 5);
        x.lie(0, 1);
        Check.due("40 a row of 0 gives 0", false, () -> x.agree(1));
    }

    private static void opening() {
        Entropiary x = threshold();
        Check.state("41 nothing is dealt", () -> x.open(99));
        for (int secret = 0; secret < 5; secret++) {
            int due = secret;
            x.deal(secret, 1000 + secret);
            Check.due("41 two", due, () -> x.open(6));
            Check.due("41 three", due, () -> x.open(7));
        }
        Check.none("41 one", () -> x.open(1));
        Check.none("41 none", () -> x.open(0));
        Check.argument("41 open(32)", () -> x.open(32));
        Check.argument("41 open(-1)", () -> x.open(-1));
        x.lie(0, (x.shareAt(0) + 1) % 5);
        Check.unsupported("41 a lie", () -> x.open(7));
        Check.due("41 without the liar", 4, () -> x.open(6));
        // Two shares (1, 1) and (1, 2): the secret is twice the first less the second, so a lie of 1 adds 2.
        Check.due("41 misled", 1, () -> x.open(3));
        Entropiary y = new Entropiary();
        y.scheme(2);
        y.share(0, 1);
        y.share(0, 1);
        y.deal(1, 1);
        y.lie(0, 1 - y.shareAt(0));
        Check.none("41 does not open, nor agrees", () -> y.open(1));
    }
}
