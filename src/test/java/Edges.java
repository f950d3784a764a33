import java.util.ArrayList;
import java.util.HashMap;
import java.util.List;
import java.util.Map;

/** Calls at the edges of what the document allows: what is due, what is refused, and that refusals change nothing. */
final class Edges {
    interface Use {
        Object on(Entropiary x);
    }

    interface NumberUse {
        Object on(Entropiary x, int number);
    }

    static final String ARGUMENT = "IllegalArgumentException";
    static final String INDEX = "IndexOutOfBoundsException";
    static final String STATE = "IllegalStateException";
    static final String NONE = "NoSuchElementException";
    static final String UNSUPPORTED = "UnsupportedOperationException";

    /** A new object. */
    static final Use NEW = x -> null;

    /** An object that holds as much as it can, but for the table, in which the row 1 of the variable 0 is not there. */
    static final Use FULL = Edges::fill;

    private static final int[] WEIGHTS = {3, 0, 1, 0, 0, 0, 2, 5, 0};

    /** Pictures of states that are asked for again and again; a state is known by the object that makes it. */
    private static final Map<Use, List<String>> PICTURES = new HashMap<>();

    private Edges() {
    }

    static void due(String name, Object want, Use state, Use call) {
        Entropiary x = made(state);
        Check.due(name, want, () -> call.on(x));
    }

    /** The call throws what is due, and the object answers afterwards as it would have answered without it. */
    static void refused(String name, String exception, Use state, Use call) {
        due(name, "throws." + exception, state, call);
        List<String> without = PICTURES.computeIfAbsent(state, made -> picture(made, NEW));
        Check.due(name + " changes nothing", "", () -> unlike(without, picture(state, call)));
    }

    static void refusedAlways(String name, String exception, Use call) {
        refused(name + ", new", exception, NEW, call);
        refused(name + ", full", exception, FULL, call);
    }

    /** Both ends are taken; the numbers next to them and the farthest ones are refused. */
    static void range(String name, String exception, int low, int high, Use state, NumberUse call) {
        taken(name + " " + low, state, x -> call.on(x, low));
        taken(name + " " + high, state, x -> call.on(x, high));
        int[] beyond = {low - 1, high + 1, Integer.MIN_VALUE, Integer.MAX_VALUE};
        for (int number : beyond) {
            refused(name + " " + number, exception, state, x -> call.on(x, number));
        }
    }

    private static void taken(String name, Use state, Use call) {
        Entropiary x = made(state);
        Check.due(name + " is taken", false, () -> outcome(x, call).startsWith("throws."));
    }

    /** The state and then more calls. */
    static Use after(Use state, Use more) {
        return x -> {
            state.on(x);
            more.on(x);
            return null;
        };
    }

    private static Entropiary made(Use state) {
        Entropiary x = new Entropiary();
        state.on(x);
        return x;
    }

    private static Object fill(Entropiary x) {
        x.table(2, 3);
        for (int cell = 0; cell < 9; cell++) {
            x.weigh(cell, WEIGHTS[cell]);
        }
        fillRanks(x);
        fillArrowsAndTies(x);
        fillSecrets(x);
        fillCodes(x);
        x.inputs(6);
        for (int input = 0; input < 5; input++) {
            x.confuse(input, (input + 1) % 5, true);
        }
        x.receivers(4);
        for (int receiver = 0; receiver < 4; receiver++) {
            x.knows(receiver, 1 << (receiver + 1) % 4);
        }
        return null;
    }

    private static void fillRanks(Entropiary x) {
        for (int set = 1; set < 8; set++) {
            x.factor(set, 2 * set - 9);
        }
        x.prime(5);
        x.vector(0, 624);
        x.vector(0, 125);
        x.vector(0, 1);
        x.vector(1, 25);
        for (int set = 1; set < 16; set++) {
            x.setRank(set, set % 10);
        }
    }

    private static void fillArrowsAndTies(Entropiary x) {
        for (int node = 0; node < 5; node++) {
            x.arrow(node, node + 1, true);
        }
        x.keep();
        x.arrow(3, 5, true);
        for (int i = 0; i < 10; i++) {
            x.tie(1 << i % 2, 2 >> i % 2, 4 * (i % 4));
        }
    }

    private static void fillSecrets(Entropiary x) {
        x.scheme(13);
        for (int row = 0; row < 10; row++) {
            x.share(row % 5, 2197 * (row % 3) + 169 * row + 13 * (row / 2) + row % 4);
        }
        for (int i = 0; i < 10; i++) {
            x.allow(3 + i);
        }
        x.deal(12, 99999);
        x.lie(4, 12 - x.shareAt(4));
    }

    private static void fillCodes(Entropiary x) {
        for (int sign = 0; sign < 8; sign++) {
            x.sign(99 - sign * sign);
        }
        for (int i = 0; i < 6; i++) {
            x.spell(7 - i);
        }
        for (int i = 0; i < 40; i++) {
            x.bit(i * i % 3 % 2);
        }
    }

    private static String unlike(List<String> one, List<String> other) {
        for (int i = 0; i < one.size(); i++) {
            if (!one.get(i).equals(other.get(i))) {
                return one.get(i) + " is now " + other.get(i);
            }
        }
        return "";
    }

    /** All that a state answers; each section is asked of an object of its own, which takes less than 512 calls. */
    private static List<String> picture(Use state, Use more) {
        List<String> answers = new ArrayList<>();
        askTable(pictured(state, more), answers);
        askRanks(pictured(state, more), answers);
        askArrows(pictured(state, more), answers);
        askTies(pictured(state, more), answers);
        askSecrets(pictured(state, more), answers);
        askCodes(pictured(state, more), answers);
        askChannels(pictured(state, more), answers);
        return answers;
    }

    private static Entropiary pictured(Use state, Use more) {
        Entropiary x = made(state);
        outcome(x, more);
        return x;
    }

    private static String outcome(Entropiary x, Use call) {
        return Check.outcome(() -> call.on(x));
    }

    private static void ask(Entropiary x, List<String> answers, String name, Use call) {
        answers.add(name + ": " + outcome(x, call));
    }

    private static void askTable(Entropiary x, List<String> answers) {
        ask(x, answers, "checksum", Entropiary::checksum);
        ask(x, answers, "weightShare", Entropiary::weightShare);
        for (int i = 0; i <= 16; i++) {
            int set = i;
            ask(x, answers, "chanceUnder " + set, y -> y.chanceUnder(set, 0));
        }
        for (int i = 0; i <= 81; i++) {
            int cell = i;
            ask(x, answers, "weight " + cell, y -> y.weigh(cell, 0));
        }
    }

    private static void askRanks(Entropiary x, List<String> answers) {
        ask(x, answers, "worst 1", y -> y.worst(1));
        ask(x, answers, "worst 2", y -> y.worst(2));
        ask(x, answers, "broken", Entropiary::broken);
        ask(x, answers, "ingleton by vectors", y -> y.ingleton(false));
        ask(x, answers, "ingleton told", y -> y.ingleton(true));
        ask(x, answers, "isSound", Entropiary::isSound);
        for (int i = 0; i < 16; i++) {
            int set = i;
            ask(x, answers, "rank " + set, y -> y.rank(set));
            ask(x, answers, "told rank " + set, y -> y.setRank(set, 0));
            ask(x, answers, "factor " + set, y -> y.factor(set, 0));
        }
        for (int i = 0; i < 4; i++) {
            int variable = i;
            ask(x, answers, "vectors " + variable, y -> y.vector(variable, 0));
        }
        ask(x, answers, "prime", y -> y.prime(2));
    }

    private static void askArrows(Entropiary x, List<String> answers) {
        ask(x, answers, "isLike", Entropiary::isLike);
        for (int i = 0; i < 15 * 16; i++) {
            int[] nodes = pair(i / 16);
            int set = without(i % 16, nodes);
            ask(x, answers, "isSeparated " + nodes[0] + nodes[1] + set, y -> y.isSeparated(nodes[0], nodes[1], set));
        }
        for (int i = 0; i < 15; i++) {
            int[] nodes = pair(i);
            ask(x, answers, "arrow " + nodes[0] + nodes[1], y -> y.arrow(nodes[0], nodes[1], false));
            ask(x, answers, "arrow " + nodes[1] + nodes[0], y -> y.arrow(nodes[1], nodes[0], false));
        }
        ask(x, answers, "isLike without arrows", Entropiary::isLike);
        for (int node = 0; node < 5; node++) {
            x.arrow(node, node + 1, true);
        }
        ask(x, answers, "isLike a chain", Entropiary::isLike);
    }

    private static int[] pair(int number) {
        int left = number;
        int low = 0;
        while (left >= 5 - low) {
            left -= 5 - low;
            low++;
        }
        return new int[] {low, low + 1 + left};
    }

    /** Spreads four bits over the nodes that are not of the pair. */
    private static int without(int bits, int[] nodes) {
        int set = 0;
        int next = 0;
        for (int node = 0; node < 6; node++) {
            if (node != nodes[0] && node != nodes[1]) {
                set |= (bits >> next & 1) << node;
                next++;
            }
        }
        return set;
    }

    private static void askTies(Entropiary x, List<String> answers) {
        for (int number = 0; number < 256; number++) {
            int[] sets = new int[4];
            for (int variable = 0; variable < 4; variable++) {
                sets[number >> 2 * variable & 3] |= 1 << variable;
            }
            if (sets[0] != 0 && sets[1] != 0) {
                ask(x, answers, "follows " + number, y -> y.follows(sets[0], sets[1], sets[2]));
            }
        }
        ask(x, answers, "ties", Entropiary::untie);
    }

    private static void askSecrets(Entropiary x, List<String> answers) {
        ask(x, answers, "checksum", Entropiary::checksum);
        ask(x, answers, "misfit", Entropiary::misfit);
        for (int i = 0; i < 32; i++) {
            int set = i;
            ask(x, answers, "opens " + set, y -> y.opens(set));
            ask(x, answers, "isAllowed " + set, y -> y.isAllowed(set));
            ask(x, answers, "agree " + set, y -> y.agree(set));
            ask(x, answers, "open " + set, y -> y.open(set));
        }
        askShares(x, answers);
        int[] secrets = {12, 10, 6, 4, 2, 1};
        for (int secret : secrets) {
            ask(x, answers, "deal " + secret, y -> y.deal(secret, 5));
        }
        askShares(x, answers);
        ask(x, answers, "allowed sets", y -> y.allow(31));
        ask(x, answers, "rows", y -> y.scheme(2));
    }

    private static void askShares(Entropiary x, List<String> answers) {
        for (int i = 0; i <= 10; i++) {
            int row = i;
            ask(x, answers, "share " + row, y -> y.shareAt(row));
        }
    }

    private static void askCodes(Entropiary x, List<String> answers) {
        ask(x, answers, "cost", Entropiary::cost);
        ask(x, answers, "meanLength", Entropiary::meanLength);
        askInterval(x, answers);
        ask(x, answers, "word", y -> y.spell(0));
        ask(x, answers, "signs", y -> y.sign(1));
        for (int i = 0; i <= 8; i++) {
            int sign = i;
            ask(x, answers, "length " + sign, y -> y.length(sign));
            ask(x, answers, "spell " + sign, y -> y.spell(sign));
            askInterval(x, answers);
        }
        ask(x, answers, "phrases", Entropiary::phrases);
        ask(x, answers, "bits", y -> y.bit(0));
        ask(x, answers, "phrases and one bit", Entropiary::phrases);
        ask(x, answers, "wipe", Entropiary::wipe);
    }

    private static void askInterval(Entropiary x, List<String> answers) {
        ask(x, answers, "lower end", y -> y.intervalOver(false) + " by " + y.intervalUnder(false));
        ask(x, answers, "width", y -> y.intervalOver(true) + " by " + y.intervalUnder(true));
    }

    private static void askChannels(Entropiary x, List<String> answers) {
        ask(x, answers, "apart 1", y -> y.apart(1));
        ask(x, answers, "apart 2", y -> y.apart(2));
        ask(x, answers, "cliques", Entropiary::cliques);
        ask(x, answers, "broadcasts", Entropiary::broadcasts);
        for (int i = 0; i < 15; i++) {
            int[] both = pair(i);
            ask(x, answers, "confused " + both[0] + both[1], y -> y.confuse(both[0], both[1], false));
        }
        ask(x, answers, "inputs", y -> y.inputs(1));
        for (int i = 0; i <= 4; i++) {
            int receiver = i;
            ask(x, answers, "known " + receiver, y -> y.knows(receiver, 0));
        }
        ask(x, answers, "receivers", y -> y.receivers(1));
    }
}
