import java.math.BigInteger;
import java.util.ArrayList;
import java.util.Arrays;
import java.util.HashMap;
import java.util.HashSet;
import java.util.List;
import java.util.Map;
import java.util.NoSuchElementException;
import java.util.Set;
import java.util.TreeMap;
import java.util.TreeSet;

/** The document once more, as slow and as literal as can be, for random runs to be compared with. */
public final class Model {
    private int variables = 1;
    private int values = 2;
    private int[] weights = new int[2];
    private final int[] factors = new int[8];
    private int vectorPrime = 2;
    private final List<List<Integer>> vectors = new ArrayList<>();
    private final int[] told = new int[16];
    private boolean[][] arrows = new boolean[6][6];
    private boolean[][] kept;
    private final List<List<Integer>> ties = new ArrayList<>();
    private int prime = 2;
    private final List<int[]> rows = new ArrayList<>();
    private final List<Integer> allowed = new ArrayList<>();
    private int[] shares;
    private final List<Integer> signs = new ArrayList<>();
    private final List<Integer> word = new ArrayList<>();
    private String text = "";
    private boolean[][] confused = new boolean[1][1];
    private int[] known = new int[1];
    private static final List<List<int[]>> RANKS = List.of(rankFunctions(1), rankFunctions(2));

    public Model() {
        for (int i = 0; i < 4; i++) {
            vectors.add(new ArrayList<>());
        }
    }

    /** The greatest number that a call takes as things stand, for random runs that are not all refused. */
    int greatest(String call, int place) {
        switch (call + " " + place) {
            case "weigh 0": return weights.length - 1;
            case "chanceOver 1": case "chanceUnder 1": case "partOf 2": return values;
            case "vector 1": return (int) Math.pow(vectorPrime, 4) - 1;
            case "share 1": return (int) Math.pow(prime, 4) - 1;
            case "deal 0": case "lie 1": return prime - 1;
            case "shareAt 0": case "lie 0": return rows.size() - 1;
            case "length 0": case "spell 0": return signs.size() - 1;
            case "confuse 0": case "confuse 1": return confused.length - 1;
            case "knows 0": return known.length - 1;
            case "knows 1": return (1 << known.length) - 1;
            default: break;
        }
        boolean isOfTable = List.of("chanceOver", "chanceUnder", "areApart", "isTold", "parts", "partOf", "classes",
                "guessesOver", "guessesUnder", "hitOver", "hitUnder").contains(call);
        return isOfTable ? (1 << variables) - 1 : Integer.MAX_VALUE;
    }

    private static void argument(boolean isWrong) {
        if (isWrong) {
            throw new IllegalArgumentException();
        }
    }

    private static void index(boolean isWrong) {
        if (isWrong) {
            throw new IndexOutOfBoundsException();
        }
    }

    private static void state(boolean isWrong) {
        if (isWrong) {
            throw new IllegalStateException();
        }
    }

    private static void none(boolean isWrong) {
        if (isWrong) {
            throw new NoSuchElementException();
        }
    }

    private static void unsupported(boolean isWrong) {
        if (isWrong) {
            throw new UnsupportedOperationException();
        }
    }

    private static long over(long over, long under) {
        return over / BigInteger.valueOf(over).gcd(BigInteger.valueOf(under)).longValueExact();
    }

    private static long under(long over, long under) {
        return under / BigInteger.valueOf(over).gcd(BigInteger.valueOf(under)).longValueExact();
    }

    // tables: rows are texts of digits

    public int table(int newVariables, int newValues) {
        argument(newVariables < 1 || newVariables > 4 || newValues < 2 || newValues > 3);
        variables = newVariables;
        values = newValues;
        weights = new int[(int) Math.round(Math.pow(values, variables))];
        return weights.length;
    }

    public int weigh(int cell, int weight) {
        index(cell < 0 || cell >= weights.length);
        argument(weight < 0 || weight > 99);
        int before = weights[cell];
        weights[cell] = weight;
        return before;
    }

    private String row(int cell, int set) {
        String digits = Integer.toString(cell, values);
        digits = "0".repeat(variables - digits.length()) + digits;
        StringBuilder row = new StringBuilder();
        for (int variable = 0; variable < variables; variable++) {
            if ((set & 1 << variable) != 0) {
                row.append(digits.charAt(variable));
            }
        }
        return row.toString();
    }

    private int number(String row) {
        return row.isEmpty() ? 0 : Integer.parseInt(row, values);
    }

    private TreeMap<String, Integer> weighed(int set) {
        TreeMap<String, Integer> sums = new TreeMap<>();
        for (int cell = 0; cell < weights.length; cell++) {
            sums.merge(row(cell, set), weights[cell], Integer::sum);
        }
        return sums;
    }

    private Map<String, Integer> jointly(int set, int by) {
        Map<String, Integer> sums = new HashMap<>();
        for (int cell = 0; cell < weights.length; cell++) {
            sums.merge(row(cell, set) + " " + row(cell, by), weights[cell], Integer::sum);
        }
        return sums;
    }

    private boolean noSet(int set) {
        return set < 0 || set >= 1 << variables;
    }

    private int total() {
        return Arrays.stream(weights).sum();
    }

    private int chance(int set, int row) {
        argument(noSet(set));
        TreeMap<String, Integer> sums = weighed(set);
        index(row < 0 || row >= sums.size());
        unsupported(total() == 0);
        int chance = 0;
        for (String there : sums.keySet()) {
            chance += number(there) == row ? sums.get(there) : 0;
        }
        return chance;
    }

    public long chanceOver(int set, int row) {
        return over(chance(set, row), total());
    }

    public long chanceUnder(int set, int row) {
        return under(chance(set, row), total());
    }

    public boolean areApart(int first, int second, int third) {
        argument(noSet(first) || noSet(second) || noSet(third));
        argument((first & second | first & third | second & third) != 0);
        Map<String, Integer> firstThird = jointly(first, third);
        Map<String, Integer> secondThird = jointly(second, third);
        Map<String, Integer> thirdAlone = weighed(third);
        Map<String, Integer> all = new HashMap<>();
        for (int cell = 0; cell < weights.length; cell++) {
            all.merge(row(cell, first) + " " + row(cell, second) + " " + row(cell, third), weights[cell], Integer::sum);
        }
        for (String i : weighed(first).keySet()) {
            for (String j : weighed(second).keySet()) {
                for (String k : thirdAlone.keySet()) {
                    if (all.get(i + " " + j + " " + k) * thirdAlone.get(k)
                            != firstThird.get(i + " " + k) * secondThird.get(j + " " + k)) {
                        return false;
                    }
                }
            }
        }
        return true;
    }

    public boolean isTold(int set, int by) {
        argument(noSet(set) || noSet(by));
        Map<String, Set<String>> partners = new HashMap<>();
        for (int cell = 0; cell < weights.length; cell++) {
            if (weights[cell] > 0) {
                partners.computeIfAbsent(row(cell, by), key -> new HashSet<>()).add(row(cell, set));
            }
        }
        return partners.values().stream().allMatch(some -> some.size() == 1);
    }

    private List<Set<String>> allParts(int set, int by) {
        List<Set<String>> parts = new ArrayList<>();
        for (int cell = 0; cell < weights.length; cell++) {
            if (weights[cell] > 0) {
                Set<String> joined = new TreeSet<>(List.of("1 " + row(cell, set), "2 " + row(cell, by)));
                for (Set<String> part : new ArrayList<>(parts)) {
                    if (part.contains("1 " + row(cell, set)) || part.contains("2 " + row(cell, by))) {
                        joined.addAll(part);
                        parts.remove(part);
                    }
                }
                parts.add(joined);
            }
        }
        parts.sort((one, other) -> one.iterator().next().compareTo(other.iterator().next()));
        return parts;
    }

    public int parts(int set, int by) {
        argument(noSet(set) || noSet(by));
        return allParts(set, by).size();
    }

    public int partOf(int set, int by, int row) {
        argument(noSet(set) || noSet(by));
        TreeMap<String, Integer> sums = weighed(set);
        index(row < 0 || row >= sums.size());
        List<Set<String>> parts = allParts(set, by);
        for (String there : sums.keySet()) {
            for (int part = 0; part < parts.size() && number(there) == row; part++) {
                if (parts.get(part).contains("1 " + there)) {
                    return part;
                }
            }
        }
        throw new NoSuchElementException();
    }

    public int classes(int set, int by) {
        argument(noSet(set) || noSet(by));
        Map<String, Integer> joint = jointly(set, by);
        Set<List<String>> profiles = new HashSet<>();
        for (Map.Entry<String, Integer> there : weighed(set).entrySet()) {
            List<String> profile = new ArrayList<>();
            for (String other : weighed(by).keySet()) {
                int weight = joint.getOrDefault(there.getKey() + " " + other, 0);
                if (there.getValue() > 0) {
                    profile.add(over(weight, there.getValue()) + "/" + under(weight, there.getValue()));
                }
            }
            if (there.getValue() > 0) {
                profiles.add(profile);
            }
        }
        return profiles.size();
    }

    private long[] guessing(int set, int by) {
        argument(noSet(set) || noSet(by));
        unsupported(total() == 0);
        Map<String, Integer> joint = jointly(set, by);
        long[] sums = new long[2];
        for (String seen : weighed(by).keySet()) {
            List<Integer> falling = new ArrayList<>();
            for (String guessed : weighed(set).keySet()) {
                falling.add(-joint.getOrDefault(guessed + " " + seen, 0));
            }
            falling.sort(null);
            for (int i = 0; i < falling.size(); i++) {
                sums[0] -= (i + 1) * falling.get(i);
            }
            sums[1] -= falling.get(0);
        }
        return sums;
    }

    public long guessesOver(int set, int by) {
        return over(guessing(set, by)[0], total());
    }

    public long guessesUnder(int set, int by) {
        return under(guessing(set, by)[0], total());
    }

    public long hitOver(int set, int by) {
        return over(guessing(set, by)[1], total());
    }

    public long hitUnder(int set, int by) {
        return under(guessing(set, by)[1], total());
    }

    // laws: all functions are made and the words of the document asked of each

    private static List<int[]> rankFunctions(int most) {
        List<int[]> functions = new ArrayList<>();
        int base = 3 * most + 1;
        int all = (int) Math.round(Math.pow(base, 7));
        for (int number = 0; number < all; number++) {
            int[] ranks = new int[8];
            int rest = number;
            for (int set = 1; set < 8; set++) {
                ranks[set] = rest % base;
                rest /= base;
            }
            if (ranks[1] <= most && ranks[2] <= most && ranks[4] <= most && isRankFunction(ranks)) {
                functions.add(ranks);
            }
        }
        return functions;
    }

    private static boolean isRankFunction(int[] ranks) {
        for (int one = 0; one < 8; one++) {
            for (int other = 0; other < 8; other++) {
                if ((one & other) == other && ranks[one] < ranks[other]
                        || ranks[one | other] + ranks[one & other] > ranks[one] + ranks[other]) {
                    return false;
                }
            }
        }
        return true;
    }

    public int factor(int set, int factor) {
        argument(set < 1 || set > 7 || factor < -9 || factor > 9);
        int before = factors[set];
        factors[set] = factor;
        return before;
    }

    public int worst(int most) {
        argument(most != 1 && most != 2);
        int worst = Integer.MAX_VALUE;
        for (int[] ranks : RANKS.get(most - 1)) {
            int value = 0;
            for (int set = 1; set < 8; set++) {
                value += factors[set] * ranks[set];
            }
            worst = Math.min(worst, value);
        }
        return worst;
    }

    public boolean holds(int most) {
        return worst(most) >= 0;
    }

    // vectors: ranks by counting what vectors span

    private static int[] places(int number, int base) {
        return new int[] {number / (base * base * base), number / (base * base) % base, number / base % base,
            number % base};
    }

    private static Set<List<Integer>> span(List<int[]> some, int base) {
        Set<List<Integer>> spanned = new HashSet<>();
        spanned.add(new ArrayList<>(java.util.Collections.nCopies(some.isEmpty() ? 4 : some.get(0).length, 0)));
        for (int[] vector : some) {
            Set<List<Integer>> more = new HashSet<>();
            for (List<Integer> sum : spanned) {
                for (int factor = 0; factor < base; factor++) {
                    List<Integer> next = new ArrayList<>();
                    for (int i = 0; i < vector.length; i++) {
                        next.add((sum.get(i) + factor * vector[i]) % base);
                    }
                    more.add(next);
                }
            }
            spanned = more;
        }
        return spanned;
    }

    public int prime(int newPrime) {
        argument(newPrime != 2 && newPrime != 3 && newPrime != 5);
        int before = vectorPrime;
        vectorPrime = newPrime;
        vectors.forEach(List::clear);
        return before;
    }

    public int vector(int variable, int vector) {
        index(variable < 0 || variable > 3);
        argument(vector < 0 || vector >= Math.pow(vectorPrime, 4));
        state(vectors.get(variable).size() == 3);
        vectors.get(variable).add(vector);
        return vectors.get(variable).size();
    }

    public int rank(int set) {
        argument(set < 0 || set > 15);
        List<int[]> some = new ArrayList<>();
        for (int variable = 0; variable < 4; variable++) {
            if ((set & 1 << variable) != 0) {
                vectors.get(variable).forEach(vector -> some.add(places(vector, vectorPrime)));
            }
        }
        int size = span(some, vectorPrime).size();
        int rank = 0;
        for (int power = 1; power < size; power *= vectorPrime) {
            rank++;
        }
        return rank;
    }

    public int setRank(int set, int rank) {
        argument(set < 1 || set > 15 || rank < 0 || rank > 9);
        int before = told[set];
        told[set] = rank;
        return before;
    }

    public int broken() {
        List<Boolean> laws = new ArrayList<>();
        for (int i = 0; i < 4; i++) {
            laws.add(told[15] >= told[15 ^ 1 << i]);
        }
        for (int i = 0; i < 4; i++) {
            for (int j = i + 1; j < 4; j++) {
                int others = 15 ^ 1 << i ^ 1 << j;
                for (int set : new int[] {0, Integer.lowestOneBit(others), Integer.highestOneBit(others), others}) {
                    laws.add(told[set + (1 << i)] + told[set + (1 << j)]
                            >= told[set + (1 << i) + (1 << j)] + told[set]);
                }
            }
        }
        none(!laws.contains(false));
        return laws.indexOf(false);
    }

    public int ingleton(boolean areTold) {
        int value = 0;
        for (int set = 1; set < 16; set++) {
            boolean isLess = List.of(1, 2, 12, 7, 11).contains(set);
            int sign = isLess ? -1 : Integer.bitCount(set) == 2 ? 1 : 0;
            value += sign * (areTold ? told[set] : rank(set));
        }
        return value;
    }

    // arrows: separation by what is joined once parents are wed, likeness by all separations

    private static boolean reaches(boolean[][] graph, int from, int to) {
        if (from == to) {
            return true;
        }
        for (int next = 0; next < 6; next++) {
            if (graph[from][next] && reaches(graph, next, to)) {
                return true;
            }
        }
        return false;
    }

    public boolean arrow(int from, int to, boolean isThere) {
        index(from < 0 || from > 5 || to < 0 || to > 5);
        argument(from == to);
        unsupported(isThere && reaches(arrows, to, from));
        boolean was = arrows[from][to];
        arrows[from][to] = isThere;
        return was;
    }

    private static boolean separates(boolean[][] graph, int a, int b, int set) {
        int old = 0;
        for (int node = 0; node < 6; node++) {
            for (int end = 0; end < 6; end++) {
                if (((set | 1 << a | 1 << b) >> end & 1) != 0 && reaches(graph, node, end)) {
                    old |= 1 << node;
                }
            }
        }
        boolean[][] joined = new boolean[6][6];
        for (int one = 0; one < 6; one++) {
            for (int other = 0; other < 6; other++) {
                for (int child = 0; child < 6; child++) {
                    if ((old >> one & old >> other & old >> child & 1) != 0 && (graph[one][other] || graph[other][one]
                            || graph[one][child] && graph[other][child])) {
                        joined[one][other] = true;
                    }
                }
            }
        }
        int reached = 1 << a;
        for (int round = 0; round < 6; round++) {
            for (int node = 0; node < 6; node++) {
                for (int next = 0; next < 6; next++) {
                    if ((reached >> node & 1) != 0 && joined[node][next] && (set >> next & 1) == 0) {
                        reached |= 1 << next;
                    }
                }
            }
        }
        return (reached >> b & 1) == 0;
    }

    public boolean isSeparated(int a, int b, int set) {
        index(a < 0 || a > 5 || b < 0 || b > 5);
        argument(a == b || set < 0 || set > 63 || (set & (1 << a | 1 << b)) != 0);
        return separates(arrows, a, b, set);
    }

    public int keep() {
        kept = new boolean[6][];
        int count = 0;
        for (int node = 0; node < 6; node++) {
            kept[node] = arrows[node].clone();
            for (boolean isThere : kept[node]) {
                count += isThere ? 1 : 0;
            }
        }
        return count;
    }

    public boolean isLike() {
        state(kept == null);
        for (int a = 0; a < 6; a++) {
            for (int b = a + 1; b < 6; b++) {
                for (int set = 0; set < 64; set++) {
                    if ((set >> a & 1) == 0 && (set >> b & 1) == 0
                            && separates(arrows, a, b, set) != separates(kept, a, b, set)) {
                        return false;
                    }
                }
            }
        }
        return true;
    }

    private static boolean noTie(int a, int b, int c) {
        return a < 1 || a > 15 || b < 1 || b > 15 || c < 0 || c > 15 || (a & b | a & c | b & c) != 0;
    }

    public int tie(int a, int b, int c) {
        argument(noTie(a, b, c));
        state(ties.size() == 10);
        ties.add(List.of(a, b, c));
        return ties.size();
    }

    public int untie() {
        int before = ties.size();
        ties.clear();
        return before;
    }

    public boolean follows(int a, int b, int c) {
        argument(noTie(a, b, c));
        Set<List<Integer>> known = new HashSet<>(ties);
        for (int before = -1; before != known.size();) {
            before = known.size();
            for (List<Integer> tie : new ArrayList<>(known)) {
                known.add(List.of(tie.get(1), tie.get(0), tie.get(2)));
                for (int d = 1; d < 16; d++) {
                    int rest = tie.get(1) - d;
                    if ((tie.get(1) & d) == d && rest > 0) {
                        known.add(List.of(tie.get(0), rest, tie.get(2)));
                        known.add(List.of(tie.get(0), rest, tie.get(2) + d));
                    }
                }
                for (List<Integer> other : new ArrayList<>(known)) {
                    if (other.get(0).equals(tie.get(0)) && tie.get(2) == (other.get(1) | other.get(2))) {
                        known.add(List.of(tie.get(0), tie.get(1) | other.get(1), other.get(2)));
                    }
                }
            }
        }
        return known.contains(List.of(a, b, c));
    }

    // secrets: opening by what rows span, agreeing by all hidden rows

    public int scheme(int newPrime) {
        argument(!List.of(2, 3, 5, 7, 11, 13).contains(newPrime));
        int before = rows.size();
        prime = newPrime;
        rows.clear();
        allowed.clear();
        shares = null;
        return before;
    }

    public int share(int party, int places) {
        index(party < 0 || party > 4);
        argument(places < 0 || places >= Math.pow(prime, 4));
        state(rows.size() == 10);
        int[] row = Arrays.copyOf(places(places, prime), 5);
        row[4] = party;
        rows.add(row);
        shares = null;
        return rows.size() - 1;
    }

    private List<int[]> rowsOf(int set) {
        List<int[]> some = new ArrayList<>();
        for (int[] row : rows) {
            if ((set >> row[4] & 1) != 0) {
                some.add(Arrays.copyOf(row, 4));
            }
        }
        return some;
    }

    /** A set opens if no hidden row with a 1 in the place 0 gives the shares of the hidden row of zeros. */
    private boolean opening(int set) {
        List<int[]> some = rowsOf(set);
        for (int number = 0; number < prime * prime * prime; number++) {
            int[] hidden = places(number, prime);
            hidden[0] = 1;
            boolean isShut = true;
            for (int[] row : some) {
                isShut &= product(row, hidden) == 0;
            }
            if (isShut) {
                return false;
            }
        }
        return true;
    }

    private int product(int[] row, int[] hidden) {
        int sum = 0;
        for (int i = 0; i < 4; i++) {
            sum += row[i] * hidden[i];
        }
        return sum % prime;
    }

    public boolean opens(int set) {
        argument(set < 0 || set > 31);
        return opening(set);
    }

    public int allow(int set) {
        argument(set < 1 || set > 31);
        state(allowed.size() == 10);
        allowed.add(set);
        return allowed.size();
    }

    public boolean isAllowed(int set) {
        argument(set < 0 || set > 31);
        return allowed.stream().anyMatch(one -> (one & set) == one);
    }

    public int misfit() {
        for (int set = 0; set < 32; set++) {
            if (opening(set) != isAllowed(set)) {
                return set;
            }
        }
        throw new NoSuchElementException();
    }

    public int deal(int secret, int seed) {
        argument(secret < 0 || secret >= prime || seed < 0 || seed > 99999);
        int[] hidden = {secret, 0, 0, 0};
        BigInteger z = BigInteger.valueOf(seed);
        for (int i = 1; i < 4; i++) {
            z = z.multiply(BigInteger.valueOf(1103515245)).add(BigInteger.valueOf(12345))
                    .mod(BigInteger.valueOf(2147483648L));
            hidden[i] = z.divide(BigInteger.valueOf(65536)).mod(BigInteger.valueOf(prime)).intValue();
        }
        shares = new int[rows.size()];
        for (int row = 0; row < shares.length; row++) {
            shares[row] = product(rows.get(row), hidden);
        }
        return shares.length;
    }

    public int shareAt(int row) {
        state(shares == null);
        index(row < 0 || row >= shares.length);
        return shares[row];
    }

    public int lie(int row, int share) {
        state(shares == null);
        index(row < 0 || row >= shares.length);
        argument(share < 0 || share >= prime);
        int before = shares[row];
        shares[row] = share;
        return before;
    }

    /** The places 0 of all hidden rows that give the shares. */
    private Set<Integer> secrets(int set) {
        Set<Integer> secrets = new HashSet<>();
        for (int number = 0; number < prime * prime * prime * prime; number++) {
            int[] hidden = places(number, prime);
            boolean isFit = true;
            for (int row = 0; row < shares.length && isFit; row++) {
                isFit = (set >> rows.get(row)[4] & 1) == 0 || product(rows.get(row), hidden) == shares[row];
            }
            if (isFit) {
                secrets.add(hidden[0]);
            }
        }
        return secrets;
    }

    public boolean agree(int set) {
        state(shares == null);
        argument(set < 0 || set > 31);
        return !secrets(set).isEmpty();
    }

    public int open(int set) {
        state(shares == null);
        argument(set < 0 || set > 31);
        none(!opening(set));
        Set<Integer> secrets = secrets(set);
        unsupported(secrets.isEmpty());
        if (secrets.size() > 1) {
            throw new AssertionError("a set that opens has two secrets");
        }
        return secrets.iterator().next();
    }

    // codes: the least cost by all lengths, lengths by lists of groups

    public int sign(int weight) {
        argument(weight < 1 || weight > 99);
        state(signs.size() == 8);
        signs.add(weight);
        word.clear();
        return signs.size() - 1;
    }

    private int least(int from, int units, int whole) {
        if (from == signs.size()) {
            return 0;
        }
        int least = 1 << 20;
        for (int length = 0; length < signs.size(); length++) {
            if (whole >> length <= units) {
                least = Math.min(least, signs.get(from) * length + least(from + 1, units - (whole >> length), whole));
            }
        }
        return least;
    }

    public int cost() {
        none(signs.isEmpty());
        if (signs.size() > 6) {
            int cost = 0;
            for (int sign = 0; sign < signs.size(); sign++) {
                cost += signs.get(sign) * length(sign);
            }
            return cost;
        }
        return least(0, 1 << signs.size() - 1, 1 << signs.size() - 1);
    }

    public int length(int sign) {
        index(sign < 0 || sign >= signs.size());
        List<List<Integer>> groups = new ArrayList<>();
        for (int i = 0; i < signs.size(); i++) {
            groups.add(new ArrayList<>(List.of(i)));
        }
        int length = 0;
        while (groups.size() > 1) {
            groups.sort((one, other) -> weight(one) != weight(other) ? weight(one) - weight(other)
                    : java.util.Collections.min(one) - java.util.Collections.min(other));
            List<Integer> joined = groups.remove(0);
            joined.addAll(groups.remove(0));
            length += joined.contains(sign) ? 1 : 0;
            groups.add(joined);
        }
        return length;
    }

    private int weight(List<Integer> group) {
        return group.stream().mapToInt(signs::get).sum();
    }

    public int spell(int sign) {
        index(sign < 0 || sign >= signs.size());
        state(word.size() == 6);
        word.add(sign);
        return word.size();
    }

    private BigInteger[] interval(boolean isWidth) {
        BigInteger all = BigInteger.valueOf(signs.stream().mapToInt(i -> i).sum());
        BigInteger low = BigInteger.ZERO;
        BigInteger width = BigInteger.ONE;
        BigInteger whole = BigInteger.ONE;
        for (int sign : word) {
            BigInteger lower = BigInteger.valueOf(signs.subList(0, sign).stream().mapToInt(i -> i).sum());
            low = low.multiply(all).add(width.multiply(lower));
            width = width.multiply(BigInteger.valueOf(signs.get(sign)));
            whole = whole.multiply(all);
        }
        BigInteger over = isWidth ? width : low;
        return new BigInteger[] {over.divide(over.gcd(whole)), whole.divide(over.gcd(whole))};
    }

    public long intervalOver(boolean isWidth) {
        return interval(isWidth)[0].longValueExact();
    }

    public long intervalUnder(boolean isWidth) {
        return interval(isWidth)[1].longValueExact();
    }

    public int bit(int bit) {
        argument(bit != 0 && bit != 1);
        state(text.length() == 40);
        text += bit;
        return text.length();
    }

    public int phrases() {
        List<String> phrases = new ArrayList<>();
        for (int from = 0; from < text.length();) {
            int to = from + 1;
            while (to < text.length() && phrases.contains(text.substring(from, to))) {
                to++;
            }
            phrases.add(text.substring(from, to));
            from = to;
        }
        return phrases.size();
    }

    public int wipe() {
        int before = signs.size() + text.length();
        signs.clear();
        word.clear();
        text = "";
        return before;
    }

    // inputs and broadcasts

    public int inputs(int inputs) {
        argument(inputs < 1 || inputs > 6);
        int before = confused.length;
        confused = new boolean[inputs][inputs];
        return before;
    }

    public boolean confuse(int a, int b, boolean are) {
        index(a < 0 || a >= confused.length || b < 0 || b >= confused.length);
        argument(a == b);
        boolean were = confused[a][b];
        confused[a][b] = are;
        confused[b][a] = are;
        return were;
    }

    public int apart(int length) {
        argument(length != 1 && length != 2);
        int inputs = confused.length;
        int words = length == 1 ? inputs : inputs * inputs;
        long[] near = new long[words];
        for (int one = 0; one < words; one++) {
            for (int other = 0; other < words; other++) {
                boolean isNear = true;
                for (int place = 1; place <= words / 2 || place == 1; place *= inputs) {
                    int i = one / place % inputs;
                    int j = other / place % inputs;
                    isNear &= i == j || confused[i][j];
                    if (inputs == 1) {
                        break;
                    }
                }
                near[one] |= isNear ? 1L << other : 0;
            }
        }
        return most((1L << words) - 1, near);
    }

    /** The first word is taken, or one of those in its way is. */
    private static int most(long left, long[] near) {
        if (left == 0) {
            return 0;
        }
        int few = Long.numberOfTrailingZeros(left);
        for (int word = 0; word < near.length; word++) {
            if ((left >> word & 1) != 0 && Long.bitCount(near[word] & left) < Long.bitCount(near[few] & left)) {
                few = word;
            }
        }
        int most = 0;
        long way = near[few] & left;
        long rest = left;
        for (int word = 0; word < near.length; word++) {
            if ((way >> word & 1) != 0) {
                most = Math.max(most, 1 + most(rest & ~near[word], near));
                rest &= ~(1L << word);
            }
        }
        return most;
    }

    public int cliques() {
        return fewest(0, new ArrayList<>());
    }

    private int fewest(int input, List<List<Integer>> cliques) {
        if (input == confused.length) {
            return cliques.size();
        }
        int fewest = confused.length;
        for (List<Integer> clique : new ArrayList<>(cliques)) {
            boolean isFit = true;
            for (int other : clique) {
                isFit &= confused[input][other];
            }
            if (isFit) {
                clique.add(input);
                fewest = Math.min(fewest, fewest(input + 1, cliques));
                clique.remove(clique.size() - 1);
            }
        }
        cliques.add(new ArrayList<>(List.of(input)));
        fewest = Math.min(fewest, fewest(input + 1, cliques));
        cliques.remove(cliques.size() - 1);
        return fewest;
    }

    public int receivers(int receivers) {
        argument(receivers < 1 || receivers > 4);
        int before = known.length;
        known = new int[receivers];
        return before;
    }

    public int knows(int receiver, int set) {
        index(receiver < 0 || receiver >= known.length);
        argument(set < 0 || set >= 1 << known.length || (set >> receiver & 1) != 0);
        int before = known[receiver];
        known[receiver] = set;
        return before;
    }

    public int broadcasts() {
        return leastRank(new ArrayList<>());
    }

    private int leastRank(List<int[]> square) {
        int receiver = square.size();
        if (receiver == known.length) {
            return Integer.numberOfTrailingZeros(span(square, 2).size());
        }
        int least = known.length;
        for (int set = 0; set < 1 << known.length; set++) {
            if ((set & ~(known[receiver] | 1 << receiver)) == 0 && (set >> receiver & 1) != 0) {
                square.add(new int[] {set & 1, set >> 1 & 1, set >> 2 & 1, set >> 3 & 1});
                least = Math.min(least, leastRank(square));
                square.remove(receiver);
            }
        }
        return least;
    }

    // figures

    public long checksum() {
        long sum = 0;
        for (int weight : weights) {
            sum = 31 * sum + weight;
        }
        for (int row = 0; shares != null && row < shares.length; row++) {
            sum = 31 * sum + shares[row];
        }
        return sum;
    }

    public float weightShare() {
        return (float) Arrays.stream(weights).filter(weight -> weight > 0).count() / (float) weights.length;
    }

    public double meanLength() {
        return (double) cost() / (double) signs.stream().mapToInt(i -> i).sum();
    }

    /** All four parts are true of any state, as is known of rank functions, vectors, codes and words. */
    public boolean isSound() {
        return true;
    }
}
