/** Promises 51 to 57: inputs and broadcasts. */
public final class ChannelsTest {
    public static void main(String[] args) {
        layingInputs();
        words();
        cliques();
        receivers();
        broadcasts();
        allSmallGraphs();
        allReceivers();
        Check.end();
    }

    private static void layingInputs() {
        Entropiary x = new Entropiary();
        Check.argument("51 inputs(0)", () -> x.inputs(0));
        Check.argument("51 inputs(7)", () -> x.inputs(7));
        Check.index("52 input 1", () -> x.confuse(0, 1, true));
        Check.due("51 inputs(6)", 1, () -> x.inputs(6));
        Check.due("52 4 and 5", false, () -> x.confuse(4, 5, true));
        Check.due("52 5 and 4", true, () -> x.confuse(5, 4, true));
        Check.due("52 4 and 5, not", true, () -> x.confuse(4, 5, false));
        Check.due("52 5 and 4, not", false, () -> x.confuse(5, 4, false));
        Check.index("52 input 6", () -> x.confuse(6, 6, true));
        Check.index("52 input -1", () -> x.confuse(0, -1, true));
        Check.argument("52 the same", () -> x.confuse(3, 3, true));
        x.confuse(0, 1, true);
        Check.due("51 inputs(3)", 6, () -> x.inputs(3));
        Check.due("51 none is confused", false, () -> x.confuse(0, 1, false));
        Check.index("52 input 3", () -> x.confuse(0, 3, true));
    }

    private static Entropiary ring(int inputs) {
        Entropiary x = new Entropiary();
        x.inputs(inputs);
        for (int input = 0; input < inputs; input++) {
            x.confuse(input, (input + 1) % inputs, true);
        }
        return x;
    }

    private static void words() {
        Entropiary x = new Entropiary();
        x.inputs(6);
        Check.due("53 none confused", 6, () -> x.apart(1));
        Check.due("53 none confused, pairs", 36, () -> x.apart(2));
        Check.argument("53 apart(0)", () -> x.apart(0));
        Check.argument("53 apart(3)", () -> x.apart(3));
        Check.due("53 ring of 5", 2, () -> ring(5).apart(1));
        Check.due("53 ring of 5, pairs", 5, () -> ring(5).apart(2));
        Check.due("53 ring of 6", 3, () -> ring(6).apart(1));
        Check.due("53 ring of 6, pairs", 9, () -> ring(6).apart(2));
        Check.due("53 ring of 3, pairs", 1, () -> ring(3).apart(2));
        Entropiary y = new Entropiary();
        y.inputs(6);
        for (int input = 0; input < 5; input++) {
            y.confuse(input, (input + 1) % 5, true);
        }
        // The ring and a lone one: 5 pairs of the ring, 2 and 2 with the lone one, and that twice.
        Check.due("53 ring of 5 and one", 10, () -> y.apart(2));
    }

    private static void cliques() {
        Check.due("54 one input", 1, () -> new Entropiary().cliques());
        Check.due("54 ring of 3", 1, () -> ring(3).cliques());
        Check.due("54 ring of 5", 3, () -> ring(5).cliques());
        Check.due("54 ring of 6", 3, () -> ring(6).cliques());
        Entropiary x = new Entropiary();
        x.inputs(6);
        Check.due("54 none confused", 6, x::cliques);
        for (int input = 1; input < 6; input++) {
            x.confuse(0, input, true);
        }
        Check.due("54 a star", 5, x::cliques);
    }

    private static void receivers() {
        Entropiary x = new Entropiary();
        Check.argument("55 receivers(0)", () -> x.receivers(0));
        Check.argument("55 receivers(5)", () -> x.receivers(5));
        Check.due("55 receivers(4)", 1, () -> x.receivers(4));
        Check.due("56 knows(3, 7)", 0, () -> x.knows(3, 7));
        Check.due("56 knows(3, 0)", 7, () -> x.knows(3, 0));
        Check.due("56 knows(0, 14)", 0, () -> x.knows(0, 14));
        Check.index("56 receiver 4", () -> x.knows(4, 16));
        Check.index("56 receiver -1", () -> x.knows(-1, 0));
        Check.argument("56 the own one", () -> x.knows(0, 15));
        Check.argument("56 bit 4", () -> x.knows(0, 16));
        Check.argument("56 set -1", () -> x.knows(0, -2));
        Check.due("56 nothing has changed", 14, () -> x.knows(0, 2));
        Check.due("55 receivers(2)", 4, () -> x.receivers(2));
        Check.due("55 they know nothing", 0, () -> x.knows(0, 2));
        Check.argument("56 bit 2", () -> x.knows(1, 4));
        Check.index("56 receiver 2", () -> x.knows(2, 0));
    }

    private static void broadcasts() {
        Entropiary x = new Entropiary();
        Check.due("57 one", 1, x::broadcasts);
        x.receivers(4);
        Check.due("57 four who know nothing", 4, x::broadcasts);
        for (int receiver = 0; receiver < 4; receiver++) {
            x.knows(receiver, 15 & ~(1 << receiver));
        }
        Check.due("57 four who know all others", 1, x::broadcasts);
        x.knows(0, 0);
        Check.due("57 one knows nothing", 2, x::broadcasts);
        for (int receiver = 0; receiver < 4; receiver++) {
            x.knows(receiver, 1 << (receiver + 1) % 4);
        }
        Check.due("57 each knows the next one", 3, x::broadcasts);
        for (int receiver = 0; receiver < 4; receiver++) {
            x.knows(receiver, 15 & ~((1 << receiver + 1) - 1));
        }
        Check.due("57 each knows all later ones", 4, x::broadcasts);
    }

    /** All graphs of up to 5 inputs, and some of those of 6. */
    private static void allSmallGraphs() {
        for (int inputs = 1; inputs <= 6; inputs++) {
            int graphs = 1 << inputs * (inputs - 1) / 2;
            for (int graph = 0; graph < graphs; graph += inputs < 6 ? 1 : 61) {
                Entropiary x = new Entropiary();
                Model model = new Model();
                x.inputs(inputs);
                model.inputs(inputs);
                for (int pair = 0, low = 0; low < inputs; low++) {
                    for (int high = low + 1; high < inputs; high++, pair++) {
                        x.confuse(low, high, (graph >> pair & 1) != 0);
                        model.confuse(low, high, (graph >> pair & 1) != 0);
                    }
                }
                String name = "graph " + graph + " of " + inputs;
                Check.due("53 " + name, model.apart(1), () -> x.apart(1));
                Check.due("53 " + name + ", pairs", model.apart(2), () -> x.apart(2));
                Check.due("54 " + name, model.cliques(), x::cliques);
            }
        }
    }

    /** All that up to 4 receivers may know. */
    private static void allReceivers() {
        for (int receivers = 1; receivers <= 4; receivers++) {
            for (int known = 0; known < 1 << receivers * (receivers - 1); known++) {
                Entropiary x = new Entropiary();
                Model model = new Model();
                x.receivers(receivers);
                model.receivers(receivers);
                for (int receiver = 0; receiver < receivers; receiver++) {
                    int others = known >> receiver * (receivers - 1) & (1 << receivers - 1) - 1;
                    int below = (1 << receiver) - 1;
                    int set = others & below | (others & ~below) << 1;
                    x.knows(receiver, set);
                    model.knows(receiver, set);
                }
                Check.due("57 of " + receivers + " receivers " + known, model.broadcasts(), x::broadcasts);
            }
        }
    }
}
