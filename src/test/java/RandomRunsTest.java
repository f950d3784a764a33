import java.lang.reflect.InvocationTargetException;
import java.lang.reflect.Method;
import java.util.HashMap;
import java.util.List;
import java.util.Map;
import java.util.Random;
import java.util.TreeMap;

/** Random runs of 512 calls on a new object, each answer compared with the model's; all promises. */
public final class RandomRunsTest {
    private static final int RUNS = 400;
    private static final int CALLS = 512;

    /** For each call the least and the greatest of each number; the model may know a lower one as things stand. */
    private static final String[] CALLS_AND_RANGES = {
        "weigh 0 80 0 99", "weigh 0 80 0 99", "weigh 0 80 0 99", "weigh 0 80 0 99", "weigh 0 80 0 99",
        "weigh 0 80 0 99", "weigh 0 80 0 99", "table 1 4 2 3", "chanceOver 0 15 0 80", "chanceUnder 0 15 0 80",
        "areApart 0 15 0 15 0 15", "isTold 0 15 0 15", "parts 0 15 0 15", "partOf 0 15 0 15 0 80",
        "classes 0 15 0 15", "guessesOver 0 15 0 15", "guessesUnder 0 15 0 15", "hitOver 0 15 0 15",
        "hitUnder 0 15 0 15", "factor 1 7 -9 9", "worst 1 2", "holds 1 2", "prime 2 5", "vector 0 3 0 1000",
        "rank 0 15", "setRank 1 15 0 9", "broken", "ingleton", "arrow 0 5 0 5", "isSeparated 0 5 0 5 0 63",
        "keep", "isLike", "tie 1 15 1 15 0 15", "untie", "follows 1 15 1 15 0 15", "scheme 2 13",
        "share 0 4 0 30000", "opens 0 31", "allow 1 31", "isAllowed 0 31", "misfit", "deal 0 12 0 99999",
        "shareAt 0 9", "lie 0 9 0 12", "agree 0 31", "open 0 31", "sign 1 99", "cost", "length 0 7", "spell 0 7",
        "intervalOver", "intervalUnder", "bit 0 1", "phrases", "wipe", "inputs 1 6", "confuse 0 5 0 5", "apart 1 2",
        "cliques", "receivers 1 4", "knows 0 3 0 15", "broadcasts", "checksum", "weightShare", "meanLength", "isSound"
    };

    /** The sections, so that a run can stay in one for long; the last one has every call. */
    private static final int[][] SECTIONS = {{0, 19}, {19, 28}, {28, 35}, {35, 46}, {46, 55}, {55, 62}, {0, 66}};

    private static final Map<String, Method> OURS = methods(Entropiary.class);
    private static final Map<String, Method> MODELS = methods(Model.class);
    private static final Map<String, Integer> ANSWERED = new TreeMap<>();

    public static void main(String[] args) {
        for (int seed = 0; seed < RUNS; seed++) {
            if (!run(seed)) {
                break;
            }
        }
        System.out.println(ANSWERED.get("open") + " secrets opened");
        for (String call : CALLS_AND_RANGES) {
            String name = call.split(" ")[0];
            Check.due(name + " was answered often", true, () -> ANSWERED.getOrDefault(name, 0) > RUNS / 2);
            boolean isYesOrNo = OURS.get(name).getReturnType() == boolean.class && !name.equals("isSound");
            Check.due(name + " answered both", isYesOrNo, () -> isOften(name + " true") && isOften(name + " false"));
        }
        Check.end();
    }

    private static boolean isOften(String answer) {
        return ANSWERED.getOrDefault(answer, 0) > RUNS / 8;
    }

    private static Map<String, Method> methods(Class<?> of) {
        Map<String, Method> methods = new HashMap<>();
        for (Method method : of.getDeclaredMethods()) {
            methods.put(method.getName(), method);
        }
        return methods;
    }

    private static boolean run(int seed) {
        Random random = new Random(seed);
        Entropiary ours = new Entropiary();
        Model model = new Model();
        StringBuilder history = new StringBuilder();
        int[] section = SECTIONS[seed % SECTIONS.length];
        for (int call = 0; call < CALLS; call++) {
            String[] words = CALLS_AND_RANGES[section[0] + random.nextInt(section[1] - section[0])].split(" ");
            boolean isRare = words[0].equals("table") || words[0].equals("wipe") || words[0].equals("untie")
                    || words[0].equals("scheme") || words[0].equals("inputs") || words[0].equals("receivers")
                    || words[0].equals("prime");
            if (isRare && random.nextInt(words[0].equals("table") ? 8 : 4) != 0) {
                continue;
            }
            Object[] values = values(words, OURS.get(words[0]), random, model);
            history.append(words[0]).append(java.util.Arrays.toString(values)).append(' ');
            Object want = outcome(MODELS.get(words[0]), model, values);
            Object got = outcome(OURS.get(words[0]), ours, values);
            Check.due("seed " + seed + " call " + call + " " + words[0], want, () -> got);
            if (!want.equals(got)) {
                System.out.println(history);
                return false;
            }
            if (!want.toString().startsWith("throws.")) {
                ANSWERED.merge(words[0], 1, Integer::sum);
                ANSWERED.merge(words[0] + " " + want, 1, Integer::sum);
            }
        }
        return true;
    }

    private static Object[] values(String[] words, Method method, Random random, Model model) {
        Class<?>[] types = method.getParameterTypes();
        Object[] values = new Object[types.length];
        for (int i = 0; i < types.length; i++) {
            if (types[i] == boolean.class) {
                values[i] = random.nextInt(4) != 0;
                continue;
            }
            int low = Integer.parseInt(words[1 + 2 * i]);
            int high = Integer.parseInt(words[2 + 2 * i]);
            if (random.nextInt(20) != 0) {
                high = Math.max(low, Math.min(high, model.greatest(words[0], i)));
            }
            // Small weights make ties, alike classes and free sets likely.
            int narrow = words[0].equals("weigh") && i == 1 && random.nextInt(4) != 0 ? 2 : high - low + 1;
            values[i] = low + random.nextInt(narrow);
        }
        if (List.of("areApart", "tie", "follows").contains(words[0]) && random.nextInt(8) != 0) {
            makeDisjoint(values, random);
        }
        if (types.length > 0 && random.nextInt(25) == 0) {
            goBeyond(values, random.nextInt(types.length), words, random);
        }
        return values;
    }

    private static void goBeyond(Object[] values, int place, String[] words, Random random) {
        if (values[place] instanceof Integer) {
            int low = Integer.parseInt(words[1 + 2 * place]);
            int high = Integer.parseInt(words[2 + 2 * place]);
            int[] beyond = {low - 1, high + 1, low - 1, high + 1, Integer.MIN_VALUE, Integer.MAX_VALUE,
                1 << random.nextInt(32)};
            values[place] = beyond[random.nextInt(beyond.length)];
        }
    }

    private static void makeDisjoint(Object[] sets, Random random) {
        int[] made = new int[4];
        for (int variable = 0; variable < 4; variable++) {
            made[random.nextInt(4)] |= 1 << variable;
        }
        for (int i = 0; i < 3; i++) {
            sets[i] = made[i];
        }
    }

    private static Object outcome(Method method, Object on, Object[] values) {
        try {
            return method.invoke(on, values);
        } catch (InvocationTargetException e) {
            return "throws." + e.getCause().getClass().getSimpleName();
        } catch (IllegalAccessException e) {
            throw new IllegalStateException(e);
        }
    }
}
