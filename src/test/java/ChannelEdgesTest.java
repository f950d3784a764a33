/** The edges of promises 51 to 57: inputs and broadcasts. */
public final class ChannelEdgesTest {
    /** Six inputs, any two of which are confused; four receivers who know all others. */
    private static final Edges.Use DENSE = x -> {
        x.inputs(6);
        for (int a = 0; a < 6; a++) {
            for (int b = a + 1; b < 6; b++) {
                x.confuse(a, b, true);
            }
        }
        return layReceivers(x, 4, 15);
    };

    private static final Edges.Use[] STATES = {Edges.NEW, Edges.FULL, DENSE};

    public static void main(String[] args) {
        numbersOfInputs();
        inputsThatAreNot();
        pairsOfInputs();
        lengths();
        wordsAndCliques();
        numbersOfReceivers();
        receiversThatAreNot();
        bitsThatAreNot();
        broadcasts();
        Check.end();
    }

    private static Object layReceivers(Entropiary x, int receivers, int set) {
        x.receivers(receivers);
        for (int receiver = 0; receiver < receivers; receiver++) {
            x.knows(receiver, set & (1 << receivers) - 1 & ~(1 << receiver));
        }
        return null;
    }

    private static void numbersOfInputs() {
        for (Edges.Use state : STATES) {
            Edges.range("51 inputs", Edges.ARGUMENT, 1, 6, state, (x, inputs) -> x.inputs(inputs));
        }
        Edges.due("51 one at first", 1, Edges.NEW, x -> x.inputs(6));
        for (int i = 1; i <= 6; i++) {
            int many = i;
            Edges.due("51 inputs before: " + i, i, x -> x.inputs(many), x -> x.inputs(1));
            Edges.Use laid = Edges.after(DENSE, x -> x.inputs(many));
            Edges.due("51 no two are confused: " + i, i, laid, x -> x.apart(1));
            Edges.due("51 no two words are: " + i, i * i, laid, x -> x.apart(2));
            Edges.due("54 each input is a clique: " + i, i, laid, Entropiary::cliques);
            for (int j = 1; j < i; j++) {
                int other = j;
                Edges.due("51 nor are these", false, laid, x -> x.confuse(0, other, false));
            }
            Edges.due("51 nor after one input", false, Edges.after(Edges.after(laid, x -> x.inputs(1)),
                    x -> x.inputs(6)), x -> x.confuse(0, many % 6 == 0 ? 1 : many, false));
        }
    }

    private static void inputsThatAreNot() {
        for (int i = 1; i <= 6; i++) {
            int many = i;
            Edges.Use laid = x -> x.inputs(many);
            for (int number : new int[] {-1, many, 6, 31, 32, Integer.MIN_VALUE, Integer.MAX_VALUE}) {
                for (int j = 0; j < many; j++) {
                    int other = j;
                    Edges.refused("52 no input a", Edges.INDEX, laid, x -> x.confuse(number, other, true));
                    Edges.refused("52 no input b", Edges.INDEX, laid, x -> x.confuse(other, number, true));
                    Edges.refused("52 no input b, not", Edges.INDEX, laid, x -> x.confuse(other, number, false));
                }
                Edges.refused("52 no input, both the same", Edges.INDEX, laid, x -> x.confuse(number, number, true));
            }
        }
        for (Edges.Use state : new Edges.Use[] {Edges.FULL, DENSE}) {
            Edges.range("52 a", Edges.INDEX, 0, 5, state, (x, a) -> x.confuse(a, a == 2 ? 3 : 2, false));
            Edges.range("52 b", Edges.INDEX, 0, 5, state, (x, b) -> x.confuse(b == 2 ? 3 : 2, b, true));
            for (int i = 0; i < 6; i++) {
                int input = i;
                Edges.refused("52 the same", Edges.ARGUMENT, state, x -> x.confuse(input, input, true));
                Edges.refused("52 the same, not", Edges.ARGUMENT, state, x -> x.confuse(input, input, false));
            }
        }
        Edges.refused("52 one input alone", Edges.ARGUMENT, Edges.NEW, x -> x.confuse(0, 0, false));
        Edges.refused("52 one input alone, another", Edges.INDEX, Edges.NEW, x -> x.confuse(0, 1, false));
    }

    private static void pairsOfInputs() {
        for (int i = 0; i < 6; i++) {
            for (int j = 0; j < 6; j++) {
                int a = i;
                int b = j;
                if (i == j) {
                    continue;
                }
                Edges.Use six = x -> x.inputs(6);
                Edges.Use told = Edges.after(six, x -> x.confuse(a, b, true));
                Edges.due("52 was not", false, six, x -> x.confuse(a, b, true));
                Edges.due("52 was", true, told, x -> x.confuse(a, b, true));
                Edges.due("52 was, the other way round", true, told, x -> x.confuse(b, a, false));
                Edges.due("52 is no more", false, Edges.after(told, x -> x.confuse(b, a, false)),
                        x -> x.confuse(a, b, false));
                Edges.due("53 two of six", 5, told, x -> x.apart(1));
                Edges.due("53 two of six, words", 25, told, x -> x.apart(2));
                Edges.due("54 two of six", 5, told, Entropiary::cliques);
                Edges.Use all = Edges.after(DENSE, x -> x.confuse(a, b, false));
                Edges.due("53 all but two", 2, all, x -> x.apart(1));
                Edges.due("53 all but two, words", 4, all, x -> x.apart(2));
                Edges.due("54 all but two", 2, all, Entropiary::cliques);
            }
        }
    }

    private static void lengths() {
        for (Edges.Use state : STATES) {
            Edges.range("53 lengths", Edges.ARGUMENT, 1, 2, state, (x, length) -> x.apart(length));
        }
        Edges.due("53 one input", 1, Edges.NEW, x -> x.apart(1));
        Edges.due("53 one input, words", 1, Edges.NEW, x -> x.apart(2));
        Edges.due("54 one input", 1, Edges.NEW, Entropiary::cliques);
        Edges.due("53 any two are confused", 1, DENSE, x -> x.apart(1));
        Edges.due("53 any two are confused, words", 1, DENSE, x -> x.apart(2));
        Edges.due("54 any two are confused", 1, DENSE, Entropiary::cliques);
    }

    private static void wordsAndCliques() {
        // A ring has half its inputs, cut; of words of the ring of 5 there is one more than two times two.
        int[] singles = {0, 1, 1, 1, 2, 2, 3};
        int[] words = {0, 1, 1, 1, 4, 5, 9};
        int[] cliques = {0, 1, 1, 1, 2, 3, 3};
        for (int i = 1; i <= 6; i++) {
            int many = i;
            Edges.Use ring = x -> {
                x.inputs(many);
                for (int input = 0; input < many && many > 1; input++) {
                    x.confuse(input, (input + 1) % many, true);
                }
                return null;
            };
            Edges.due("53 ring of " + i, singles[i], ring, x -> x.apart(1));
            Edges.due("53 ring of " + i + ", words", words[i], ring, x -> x.apart(2));
            Edges.due("54 ring of " + i, cliques[i], ring, Entropiary::cliques);
        }
    }

    private static void numbersOfReceivers() {
        for (Edges.Use state : STATES) {
            Edges.range("55 receivers", Edges.ARGUMENT, 1, 4, state, (x, receivers) -> x.receivers(receivers));
        }
        Edges.due("55 one at first", 1, Edges.NEW, x -> x.receivers(4));
        for (int i = 1; i <= 4; i++) {
            int many = i;
            Edges.due("55 receivers before: " + i, i, x -> x.receivers(many), x -> x.receivers(1));
            Edges.Use laid = Edges.after(DENSE, x -> x.receivers(many));
            Edges.due("57 who know nothing: " + i, i, laid, Entropiary::broadcasts);
            for (int j = 0; j < i; j++) {
                int receiver = j;
                Edges.due("55 the receiver " + j + " knows nothing", 0, laid, x -> x.knows(receiver, 0));
            }
        }
    }

    private static void receiversThatAreNot() {
        for (int i = 1; i <= 4; i++) {
            int many = i;
            Edges.Use laid = x -> layReceivers(x, many, 0);
            Edges.range("56 receivers of " + i, Edges.INDEX, 0, i - 1, laid, (x, receiver) -> x.knows(receiver, 0));
            for (int receiver : new int[] {-1, many, Integer.MIN_VALUE, Integer.MAX_VALUE}) {
                for (int set : new int[] {1 << many, -1, (1 << many) - 1}) {
                    Edges.refused("56 no receiver, no bit", Edges.INDEX, laid, x -> x.knows(receiver, set));
                }
            }
        }
    }

    private static void bitsThatAreNot() {
        for (int many = 1; many <= 4; many++) {
            for (int receiver = 0; receiver < many; receiver++) {
                bitsOf(receiver, many, 0);
                bitsOf(receiver, many, 15);
            }
        }
    }

    private static void bitsOf(int receiver, int many, int known) {
        int own = 1 << receiver;
        int before = known & (1 << many) - 1 & ~own;
        Edges.Use laid = x -> layReceivers(x, many, known);
        String name = "56 receiver " + receiver + " of " + many + ", ";
        for (int bits = 0; bits < 1 << many; bits++) {
            int set = bits;
            if ((set & own) != 0) {
                Edges.refused(name + "the own one in " + set, Edges.ARGUMENT, laid, x -> x.knows(receiver, set));
                continue;
            }
            Edges.due(name + "takes " + set, before, laid, x -> x.knows(receiver, set));
            Edges.Use told = Edges.after(laid, x -> x.knows(receiver, set));
            Edges.due(name + "keeps " + set, set, told, x -> x.knows(receiver, 0));
        }
        for (int set : new int[] {-1, -1 & ~own, 1 << many, Integer.MIN_VALUE, Integer.MAX_VALUE & ~own}) {
            Edges.refused(name + "no bit in " + set, Edges.ARGUMENT, laid, x -> x.knows(receiver, set));
        }
    }

    private static void broadcasts() {
        for (int i = 1; i <= 4; i++) {
            int many = i;
            Edges.due("57 all know nothing: " + i, i, x -> layReceivers(x, many, 0), Entropiary::broadcasts);
            Edges.due("57 all know all others: " + i, 1, x -> layReceivers(x, many, 15), Entropiary::broadcasts);
            for (int j = 0; j < i && i > 1; j++) {
                int receiver = j;
                Edges.Use one = Edges.after(x -> layReceivers(x, many, 15), x -> x.knows(receiver, 0));
                Edges.due("57 one knows nothing", 2, one, Entropiary::broadcasts);
                Edges.Use alone = Edges.after(x -> layReceivers(x, many, 0),
                        x -> x.knows(receiver, (1 << many) - 1 & ~(1 << receiver)));
                Edges.due("57 one alone knows all others", many, alone, Entropiary::broadcasts);
            }
        }
        Edges.due("57 two and two", 2, x -> {
            x.receivers(4);
            return x.knows(0, 2) + x.knows(1, 1) + x.knows(2, 8) + x.knows(3, 4);
        }, Entropiary::broadcasts);
        Edges.due("57 each knows the next one", 3, Edges.FULL, Entropiary::broadcasts);
    }
}
