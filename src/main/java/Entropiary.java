import java.util.NoSuchElementException;

/** A treasury of what is known and unknown; DOC.md tells what each call promises. */
public final class Entropiary {
    private final Table tables;
    private final Law law;
    private final Ranks ranks;
    private final Arrows arrows;
    private final Ties ties;
    private final Secrets secrets;
    private final Code code;
    private final Text text;
    private final Channel channel;
    private final Audience audience;

    public Entropiary() {
        tables = new Table();
        law = new Law();
        ranks = new Ranks();
        arrows = new Arrows();
        ties = new Ties();
        secrets = new Secrets();
        code = new Code();
        text = new Text();
        channel = new Channel();
        audience = new Audience();
    }

    // tables

    public int table(int variables, int values) throws IllegalArgumentException {
        return tables.lay(variables, values);
    }

    public int weigh(int cell, int weight) throws IndexOutOfBoundsException, IllegalArgumentException {
        return tables.putWeight(cell, weight);
    }

    public long chanceOver(int set, int row)
            throws IllegalArgumentException, IndexOutOfBoundsException, UnsupportedOperationException {
        long weight = tables.weightOfRow(set, row);
        return weight / divisorOf(weight, tables.allWeight());
    }

    public long chanceUnder(int set, int row)
            throws IllegalArgumentException, IndexOutOfBoundsException, UnsupportedOperationException {
        long weight = tables.weightOfRow(set, row);
        return tables.allWeight() / divisorOf(weight, tables.allWeight());
    }

    public boolean areApart(int first, int second, int third) throws IllegalArgumentException {
        return tables.isFree(first, second, third);
    }

    public boolean isTold(int set, int by) throws IllegalArgumentException {
        return tables.isFixed(set, by);
    }

    public int parts(int set, int by) throws IllegalArgumentException {
        return tables.countParts(set, by);
    }

    public int partOf(int set, int by, int row)
            throws IllegalArgumentException, IndexOutOfBoundsException, NoSuchElementException {
        return tables.findPart(set, by, row);
    }

    public int classes(int set, int by) throws IllegalArgumentException {
        return tables.countClasses(set, by);
    }

    public long guessesOver(int set, int by) throws IllegalArgumentException, UnsupportedOperationException {
        long sum = tables.sumOfGuesses(set, by);
        return sum / divisorOf(sum, tables.allWeight());
    }

    public long guessesUnder(int set, int by) throws IllegalArgumentException, UnsupportedOperationException {
        long sum = tables.sumOfGuesses(set, by);
        return tables.allWeight() / divisorOf(sum, tables.allWeight());
    }

    public long hitOver(int set, int by) throws IllegalArgumentException, UnsupportedOperationException {
        long sum = tables.sumOfHits(set, by);
        return sum / divisorOf(sum, tables.allWeight());
    }

    public long hitUnder(int set, int by) throws IllegalArgumentException, UnsupportedOperationException {
        long sum = tables.sumOfHits(set, by);
        return tables.allWeight() / divisorOf(sum, tables.allWeight());
    }

    // laws and ranks

    public int factor(int set, int factor) throws IllegalArgumentException {
        return law.putFactor(set, factor);
    }

    public int worst(int most) throws IllegalArgumentException {
        return law.leastValue(most);
    }

    public boolean holds(int most) throws IllegalArgumentException {
        return law.leastValue(most) >= 0;
    }

    public int prime(int prime) throws IllegalArgumentException {
        return ranks.begin(prime);
    }

    public int vector(int variable, int vector)
            throws IndexOutOfBoundsException, IllegalArgumentException, IllegalStateException {
        return ranks.addVector(variable, vector);
    }

    public int rank(int set) throws IllegalArgumentException {
        return ranks.rankByVectors(set);
    }

    public int setRank(int set, int rank) throws IllegalArgumentException {
        return ranks.tell(set, rank);
    }

    public int broken() throws NoSuchElementException {
        return ranks.firstBroken();
    }

    public int ingleton(boolean areTold) {
        return ranks.ingletonValue(areTold);
    }

    // arrows and ties

    public boolean arrow(int from, int to, boolean isThere)
            throws IndexOutOfBoundsException, IllegalArgumentException, UnsupportedOperationException {
        return arrows.put(from, to, isThere);
    }

    public boolean isSeparated(int a, int b, int set) throws IndexOutOfBoundsException, IllegalArgumentException {
        return arrows.areShutOff(a, b, set);
    }

    public int keep() {
        return arrows.keepCopy();
    }

    public boolean isLike() throws IllegalStateException {
        return arrows.isLikeCopy();
    }

    public int tie(int a, int b, int c) throws IllegalArgumentException, IllegalStateException {
        return ties.tell(a, b, c);
    }

    public int untie() {
        return ties.clear();
    }

    public boolean follows(int a, int b, int c) throws IllegalArgumentException {
        return ties.isImplied(a, b, c);
    }

    // secrets

    public int scheme(int prime) throws IllegalArgumentException {
        return secrets.begin(prime);
    }

    public int share(int party, int places)
            throws IndexOutOfBoundsException, IllegalArgumentException, IllegalStateException {
        return secrets.addRow(party, places);
    }

    public boolean opens(int set) throws IllegalArgumentException {
        return secrets.isOpening(set);
    }

    public int allow(int set) throws IllegalArgumentException, IllegalStateException {
        return secrets.addAllowed(set);
    }

    public boolean isAllowed(int set) throws IllegalArgumentException {
        return secrets.hasAllowed(set);
    }

    public int misfit() throws NoSuchElementException {
        return secrets.firstMisfit();
    }

    public int deal(int secret, int seed) throws IllegalArgumentException {
        return secrets.dealShares(secret, seed);
    }

    public int shareAt(int row) throws IllegalStateException, IndexOutOfBoundsException {
        return secrets.toldShare(row);
    }

    public int lie(int row, int share)
            throws IllegalStateException, IndexOutOfBoundsException, IllegalArgumentException {
        return secrets.putShare(row, share);
    }

    public boolean agree(int set) throws IllegalStateException, IllegalArgumentException {
        return secrets.areConsistent(set);
    }

    public int open(int set)
            throws IllegalStateException, IllegalArgumentException, NoSuchElementException,
            UnsupportedOperationException {
        return secrets.findSecret(set);
    }

    // codes

    public int sign(int weight) throws IllegalArgumentException, IllegalStateException {
        return code.addSign(weight);
    }

    public int cost() throws NoSuchElementException {
        return code.leastCost();
    }

    public int length(int sign) throws IndexOutOfBoundsException {
        return code.lengthOf(sign);
    }

    public int spell(int sign) throws IndexOutOfBoundsException, IllegalStateException {
        return code.lengthen(sign);
    }

    public long intervalOver(boolean isWidth) {
        long over = code.intervalPart(isWidth);
        return over / divisorOf(over, code.intervalWhole());
    }

    public long intervalUnder(boolean isWidth) {
        long over = code.intervalPart(isWidth);
        return code.intervalWhole() / divisorOf(over, code.intervalWhole());
    }

    public int bit(int bit) throws IllegalArgumentException, IllegalStateException {
        return text.addBit(bit);
    }

    public int phrases() {
        return text.countPhrases();
    }

    public int wipe() {
        return code.clear() + text.clear();
    }

    // inputs and broadcasts

    public int inputs(int inputs) throws IllegalArgumentException {
        return channel.lay(inputs);
    }

    public boolean confuse(int a, int b, boolean are) throws IndexOutOfBoundsException, IllegalArgumentException {
        return channel.put(a, b, are);
    }

    public int apart(int length) throws IllegalArgumentException {
        return channel.mostWords(length);
    }

    public int cliques() {
        return channel.fewestCliques();
    }

    public int receivers(int receivers) throws IllegalArgumentException {
        return audience.lay(receivers);
    }

    public int knows(int receiver, int set) throws IndexOutOfBoundsException, IllegalArgumentException {
        return audience.put(receiver, set);
    }

    public int broadcasts() {
        return audience.leastRank();
    }

    // figures

    public long checksum() {
        return secrets.sumAfter(tables.sumOfCells());
    }

    public float weightShare() {
        return (float) tables.countWeighted() / (float) tables.countCells();
    }

    public double meanLength() throws NoSuchElementException {
        return (double) code.leastCost() / (double) code.sumOfWeights();
    }

    public boolean isSound() {
        if (law.leastValue(1) >= 0 != law.leastValue(2) >= 0) {
            return false;
        }
        if (ranks.ingletonValue(false) < 0 || !code.isJoiningBest()) {
            return false;
        }
        int most = channel.mostWords(1);
        return most * most <= channel.mostWords(2);
    }

    /** The greatest common divisor, for an upper number from 0 on and a lower one above 0; never below 1. */
    private static long divisorOf(long over, long under) {
        long one = over;
        long other = under;
        // Euclid's steps on two longs stay below a hundred.
        for (int step = 0; step < 200 && other != 0; step++) {
            long rest = one % other;
            one = other;
            other = rest;
        }
        return one < 1 ? 1 : one;
    }

    /** The table of weights, and what rows of its variables tell of one another. */
    private static final class Table {
        private static final int MOST_CELLS = 81;
        private static final int ANY = -1;

        private int variables = 1;
        private int values = 2;
        private int cells = 2;
        private final int[] weights = new int[MOST_CELLS];
        private final int[] firstRows = new int[MOST_CELLS];
        private final int[] secondRows = new int[MOST_CELLS];
        private final int[] thirdRows = new int[MOST_CELLS];
        private int firstCount;
        private int secondCount;
        private final int[] firstWeights = new int[MOST_CELLS];
        private final int[] secondWeights = new int[MOST_CELLS];
        private final int[] together = new int[MOST_CELLS * MOST_CELLS];
        private final int[] firstLabels = new int[MOST_CELLS];
        private final int[] secondLabels = new int[MOST_CELLS];

        int lay(int newVariables, int newValues) {
            if (newVariables < 1 || newVariables > 4 || newValues < 2 || newValues > 3) {
                throw new IllegalArgumentException("a table has 1 to 4 variables with 2 or 3 values");
            }
            variables = newVariables;
            values = newValues;
            cells = countRows((1 << newVariables) - 1);
            for (int cell = 0; cell < MOST_CELLS; cell++) {
                weights[cell] = 0;
            }
            return cells;
        }

        int putWeight(int cell, int weight) {
            if (cell < 0 || cell >= cells) {
                throw new IndexOutOfBoundsException("no such cell");
            }
            if (weight < 0 || weight > 99) {
                throw new IllegalArgumentException("a weight is 0 to 99");
            }
            int before = weights[cell];
            weights[cell] = weight;
            return before;
        }

        int weightOfRow(int set, int row) {
            needSet(set);
            if (row < 0 || row >= countRows(set)) {
                throw new IndexOutOfBoundsException("no such row");
            }
            needWeight();
            int sum = 0;
            for (int cell = 0; cell < cells; cell++) {
                if (rowOf(cell, set) == row) {
                    sum += weights[cell];
                }
            }
            return sum;
        }

        int allWeight() {
            int sum = 0;
            for (int cell = 0; cell < cells; cell++) {
                sum += weights[cell];
            }
            return sum;
        }

        boolean isFree(int first, int second, int third) {
            needSet(first);
            needSet(second);
            needSet(third);
            if ((first & second) != 0 || (first & third) != 0 || (second & third) != 0) {
                throw new IllegalArgumentException("two sets have a variable in common");
            }
            fillRows(first, firstRows);
            fillRows(second, secondRows);
            fillRows(third, thirdRows);
            for (int i = 0; i < countRows(first); i++) {
                for (int j = 0; j < countRows(second); j++) {
                    for (int k = 0; k < countRows(third); k++) {
                        if (weightOf(i, j, k) * weightOf(ANY, ANY, k) != weightOf(i, ANY, k) * weightOf(ANY, j, k)) {
                            return false;
                        }
                    }
                }
            }
            return true;
        }

        boolean isFixed(int set, int by) {
            compare(set, by);
            for (int second = 0; second < secondCount; second++) {
                int partners = 0;
                for (int first = 0; first < firstCount; first++) {
                    partners += together[first * MOST_CELLS + second] > 0 ? 1 : 0;
                }
                if (secondWeights[second] > 0 && partners != 1) {
                    return false;
                }
            }
            return true;
        }

        int countParts(int set, int by) {
            compare(set, by);
            labelParts();
            return partsBelow(firstCount);
        }

        int findPart(int set, int by, int row) {
            compare(set, by);
            if (row < 0 || row >= firstCount) {
                throw new IndexOutOfBoundsException("no such row");
            }
            if (firstWeights[row] == 0) {
                throw new NoSuchElementException("the row is not there");
            }
            labelParts();
            return partsBelow(firstLabels[row]);
        }

        int countClasses(int set, int by) {
            compare(set, by);
            int classes = 0;
            for (int row = 0; row < firstCount; row++) {
                if (firstWeights[row] > 0 && isFirstOfClass(row)) {
                    classes++;
                }
            }
            return classes;
        }

        /**
         * The sum of guesses times weights. Where rows are guessed by falling weights, each one waits for all
         * heavier ones; so a pair of rows costs the lighter one's weight once more, and no sorting is needed.
         */
        long sumOfGuesses(int set, int by) {
            compare(set, by);
            needWeight();
            long sum = allWeight();
            for (int second = 0; second < secondCount; second++) {
                for (int first = 0; first < firstCount; first++) {
                    int weight = together[first * MOST_CELLS + second];
                    for (int other = 0; other < first && weight > 0; other++) {
                        sum += Math.min(weight, together[other * MOST_CELLS + second]);
                    }
                }
            }
            return sum;
        }

        long sumOfHits(int set, int by) {
            compare(set, by);
            needWeight();
            long sum = 0;
            for (int second = 0; second < secondCount; second++) {
                int heaviest = 0;
                for (int first = 0; first < firstCount; first++) {
                    heaviest = Math.max(heaviest, together[first * MOST_CELLS + second]);
                }
                sum += heaviest;
            }
            return sum;
        }

        int countCells() {
            return cells;
        }

        int countWeighted() {
            int count = 0;
            for (int cell = 0; cell < cells; cell++) {
                count += weights[cell] > 0 ? 1 : 0;
            }
            return count;
        }

        long sumOfCells() {
            long sum = 0;
            for (int cell = 0; cell < cells; cell++) {
                sum = 31 * sum + weights[cell];
            }
            return sum;
        }

        private void needSet(int set) {
            if (set < 0 || set >= 1 << variables) {
                throw new IllegalArgumentException("no such set of variables");
            }
        }

        private void needWeight() {
            if (allWeight() == 0) {
                throw new UnsupportedOperationException("all weights are 0");
            }
        }

        private int countRows(int set) {
            int rows = 1;
            for (int variable = 0; variable < variables; variable++) {
                rows *= (set >> variable & 1) != 0 ? values : 1;
            }
            return rows;
        }

        private int rowOf(int cell, int set) {
            int row = 0;
            int place = 1;
            int rest = cell;
            for (int variable = variables - 1; variable >= 0; variable--) {
                if ((set >> variable & 1) != 0) {
                    row += rest % values * place;
                    place *= values;
                }
                rest /= values;
            }
            return row;
        }

        private void fillRows(int set, int[] rows) {
            for (int cell = 0; cell < cells && cell < rows.length; cell++) {
                rows[cell] = rowOf(cell, set);
            }
        }

        private int weightOf(int first, int second, int third) {
            int sum = 0;
            for (int cell = 0; cell < cells; cell++) {
                if ((first == ANY || firstRows[cell] == first) && (second == ANY || secondRows[cell] == second)
                        && (third == ANY || thirdRows[cell] == third)) {
                    sum += weights[cell];
                }
            }
            return sum;
        }

        private void compare(int set, int by) {
            needSet(set);
            needSet(by);
            firstCount = countRows(set);
            secondCount = countRows(by);
            fillRows(set, firstRows);
            fillRows(by, secondRows);
            for (int row = 0; row < MOST_CELLS; row++) {
                firstWeights[row] = 0;
                secondWeights[row] = 0;
            }
            for (int first = 0; first < firstCount; first++) {
                for (int second = 0; second < secondCount; second++) {
                    together[first * MOST_CELLS + second] = 0;
                }
            }
            for (int cell = 0; cell < cells; cell++) {
                firstWeights[firstRows[cell]] += weights[cell];
                secondWeights[secondRows[cell]] += weights[cell];
                together[firstRows[cell] * MOST_CELLS + secondRows[cell]] += weights[cell];
            }
        }

        /** Gives all rows of one part the part's lowest row of the first set as their label. */
        private void labelParts() {
            for (int row = 0; row < MOST_CELLS; row++) {
                firstLabels[row] = row;
                secondLabels[row] = MOST_CELLS;
            }
            boolean isChanged = true;
            // A label crosses at least one cell a round, and no part is held together by more cells than there are.
            for (int round = 0; round < 2 * MOST_CELLS && isChanged; round++) {
                isChanged = false;
                for (int cell = 0; cell < cells; cell++) {
                    if (weights[cell] > 0 && shareLabel(firstRows[cell], secondRows[cell])) {
                        isChanged = true;
                    }
                }
            }
        }

        private boolean shareLabel(int first, int second) {
            if (firstLabels[first] == secondLabels[second]) {
                return false;
            }
            int label = Math.min(firstLabels[first], secondLabels[second]);
            firstLabels[first] = label;
            secondLabels[second] = label;
            return true;
        }

        private int partsBelow(int limit) {
            int parts = 0;
            for (int row = 0; row < limit && row < firstCount; row++) {
                if (firstWeights[row] > 0 && firstLabels[row] == row) {
                    parts++;
                }
            }
            return parts;
        }

        private boolean isFirstOfClass(int row) {
            for (int other = 0; other < row; other++) {
                if (firstWeights[other] > 0 && areOfOneClass(other, row)) {
                    return false;
                }
            }
            return true;
        }

        private boolean areOfOneClass(int one, int other) {
            for (int second = 0; second < secondCount; second++) {
                if (together[one * MOST_CELLS + second] * firstWeights[other]
                        != together[other * MOST_CELLS + second] * firstWeights[one]) {
                    return false;
                }
            }
            return true;
        }
    }

    /** The law of ranks of three variables. */
    private static final class Law {
        private static final int SETS = 8;

        private final int[] factors = new int[SETS];
        private final int[] tried = new int[SETS];

        int putFactor(int set, int factor) {
            if (set < 1 || set >= SETS || factor < -9 || factor > 9) {
                throw new IllegalArgumentException("a set is 1 to 7, a factor -9 to 9");
            }
            int before = factors[set];
            factors[set] = factor;
            return before;
        }

        int leastValue(int most) {
            if (most < 1 || most > 2) {
                throw new IllegalArgumentException("a greatest rank is 1 or 2");
            }
            int least = 0;
            for (int first = 0; first <= most; first++) {
                for (int second = 0; second <= most; second++) {
                    for (int third = 0; third <= most; third++) {
                        least = Math.min(least, leastBySingles(first, second, third));
                    }
                }
            }
            return least;
        }

        private int leastBySingles(int first, int second, int third) {
            tried[1] = first;
            tried[2] = second;
            tried[4] = third;
            int least = 0;
            for (int low = Math.max(first, second); low <= first + second; low++) {
                for (int middle = Math.max(first, third); middle <= first + third; middle++) {
                    for (int high = Math.max(second, third); high <= second + third; high++) {
                        tried[3] = low;
                        tried[5] = middle;
                        tried[6] = high;
                        least = Math.min(least, leastByPairs());
                    }
                }
            }
            return least;
        }

        /** Two pairs bound the rank of all three by what they have in common; this implies all bounds by singles. */
        private int leastByPairs() {
            int least = 0;
            int from = Math.max(tried[3], Math.max(tried[5], tried[6]));
            int to = Math.min(tried[3] + tried[5] - tried[1],
                    Math.min(tried[3] + tried[6] - tried[2], tried[5] + tried[6] - tried[4]));
            for (int all = from; all <= to; all++) {
                tried[7] = all;
                least = Math.min(least, triedValue());
            }
            return least;
        }

        private int triedValue() {
            int value = 0;
            for (int set = 1; set < SETS; set++) {
                value += factors[set] * tried[set];
            }
            return value;
        }
    }

    /** Independent rows of four places modulo a prime, each with a value that goes along with its places. */
    private static final class Basis {
        private static final int PLACES = 4;
        private static final int WIDTH = PLACES + 1;

        private int modulus = 2;
        private int size;
        private boolean isClashing;
        private final boolean[] hasRow = new boolean[PLACES];
        private final int[] rows = new int[PLACES * WIDTH];
        private final int[] probe = new int[WIDTH];

        void begin(int newModulus) {
            modulus = newModulus < 2 ? 2 : newModulus;
            size = 0;
            isClashing = false;
            for (int place = 0; place < PLACES; place++) {
                hasRow[place] = false;
            }
        }

        void add(int places, int value) {
            int place = reduce(places, value);
            if (place < PLACES) {
                takeProbe(place);
            } else if (probe[PLACES] != 0) {
                isClashing = true;
            }
        }

        int countRows() {
            return size;
        }

        boolean hasClash() {
            return isClashing;
        }

        boolean spans(int places) {
            return reduce(places, 0) == PLACES;
        }

        /** The value of places that the rows span: reducing them from the value 0 leaves it negated. */
        int valueOf(int places) {
            reduce(places, 0);
            return (modulus - probe[PLACES]) % modulus;
        }

        /** Clears places by rows from the front; returns the first one that no row clears, PLACES if none is left. */
        private int reduce(int places, int value) {
            int rest = places;
            for (int place = PLACES - 1; place >= 0; place--) {
                probe[place] = rest % modulus;
                rest /= modulus;
            }
            probe[PLACES] = value % modulus;
            for (int place = 0; place < PLACES; place++) {
                if (probe[place] != 0) {
                    if (!hasRow[place]) {
                        return place;
                    }
                    subtractRow(place);
                }
            }
            return PLACES;
        }

        private void subtractRow(int place) {
            int factor = modulus - probe[place];
            for (int i = 0; i < WIDTH; i++) {
                probe[i] = (probe[i] + factor * rows[place * WIDTH + i]) % modulus;
            }
        }

        private void takeProbe(int place) {
            int factor = inverseOf(probe[place]);
            for (int i = 0; i < WIDTH; i++) {
                rows[place * WIDTH + i] = probe[i] * factor % modulus;
            }
            hasRow[place] = true;
            size++;
        }

        private int inverseOf(int number) {
            for (int factor = 1; factor < modulus; factor++) {
                if (number * factor % modulus == 1) {
                    return factor;
                }
            }
            return 1;
        }
    }

    /** Ranks of the sets of four variables, by vectors and as they are told. */
    private static final class Ranks {
        private static final int VARIABLES = 4;
        private static final int MOST_VECTORS = 3;
        private static final int ALL = 15;

        private int modulus = 2;
        private final int[] counts = new int[VARIABLES];
        private final int[] vectors = new int[VARIABLES * MOST_VECTORS];
        private final int[] told = new int[ALL + 1];
        private final Basis basis = new Basis();

        int begin(int prime) {
            if (prime != 2 && prime != 3 && prime != 5) {
                throw new IllegalArgumentException("a prime is 2, 3 or 5");
            }
            int before = modulus;
            modulus = prime;
            for (int variable = 0; variable < VARIABLES; variable++) {
                counts[variable] = 0;
            }
            return before;
        }

        int addVector(int variable, int vector) {
            if (variable < 0 || variable >= VARIABLES) {
                throw new IndexOutOfBoundsException("no such variable");
            }
            if (vector < 0 || vector >= modulus * modulus * modulus * modulus) {
                throw new IllegalArgumentException("a vector has four places");
            }
            if (counts[variable] >= MOST_VECTORS) {
                throw new IllegalStateException("the variable has 3 vectors");
            }
            vectors[variable * MOST_VECTORS + counts[variable]] = vector;
            counts[variable]++;
            return counts[variable];
        }

        int rankByVectors(int set) {
            if (set < 0 || set > ALL) {
                throw new IllegalArgumentException("a set is 0 to 15");
            }
            basis.begin(modulus);
            for (int variable = 0; variable < VARIABLES; variable++) {
                for (int i = 0; i < counts[variable] && (set >> variable & 1) != 0; i++) {
                    basis.add(vectors[variable * MOST_VECTORS + i], 0);
                }
            }
            return basis.countRows();
        }

        int tell(int set, int rank) {
            if (set < 1 || set > ALL || rank < 0 || rank > 9) {
                throw new IllegalArgumentException("a set is 1 to 15, a rank 0 to 9");
            }
            int before = told[set];
            told[set] = rank;
            return before;
        }

        int firstBroken() {
            for (int variable = 0; variable < VARIABLES; variable++) {
                if (told[ALL] < told[ALL & ~(1 << variable)]) {
                    return variable;
                }
            }
            int number = VARIABLES;
            for (int low = 0; low < VARIABLES; low++) {
                for (int high = low + 1; high < VARIABLES; high++) {
                    for (int rest = 0; rest <= ALL; rest++) {
                        if ((rest >> low & 1) != 0 || (rest >> high & 1) != 0) {
                            continue;
                        }
                        if (isBroken(1 << low, 1 << high, rest)) {
                            return number;
                        }
                        number++;
                    }
                }
            }
            throw new NoSuchElementException("no basic law is broken");
        }

        int ingletonValue(boolean areTold) {
            int pairs = rankOf(3, areTold) + rankOf(5, areTold) + rankOf(9, areTold)
                    + rankOf(6, areTold) + rankOf(10, areTold);
            int others = rankOf(1, areTold) + rankOf(2, areTold) + rankOf(12, areTold)
                    + rankOf(7, areTold) + rankOf(11, areTold);
            return pairs - others;
        }

        private boolean isBroken(int first, int second, int rest) {
            int apart = told[(first | rest) & ALL] + told[(second | rest) & ALL];
            return apart < told[(first | second | rest) & ALL] + told[rest & ALL];
        }

        private int rankOf(int set, boolean areTold) {
            return areTold ? told[set & ALL] : rankByVectors(set);
        }
    }

    /** The graph of arrows and the one kept; a node's bits are the nodes to which its arrows point. */
    private static final class Arrows {
        private static final int NODES = 6;

        private final int[] ends = new int[NODES];
        private final int[] keptEnds = new int[NODES];
        private boolean isKept;

        boolean put(int from, int to, boolean isThere) {
            needNodes(from, to);
            if (isThere && (reachableFrom(to) >> from & 1) != 0) {
                throw new UnsupportedOperationException("there would be a round");
            }
            boolean was = (ends[from] >> to & 1) != 0;
            ends[from] = isThere ? ends[from] | 1 << to : ends[from] & ~(1 << to);
            return was;
        }

        boolean areShutOff(int a, int b, int set) {
            needNodes(a, b);
            if (set < 0 || set >= 1 << NODES || (set >> a & 1) != 0 || (set >> b & 1) != 0) {
                throw new IllegalArgumentException("a set is 0 to 63, without the two nodes");
            }
            int roused = 0;
            for (int node = 0; node < NODES; node++) {
                roused |= (reachableFrom(node) & set) != 0 ? 1 << node : 0;
            }
            return !hasOpenWay(ends, a, a, b, 1 << a, set, roused);
        }

        int keepCopy() {
            int arrows = 0;
            for (int node = 0; node < NODES; node++) {
                keptEnds[node] = ends[node];
                arrows += Integer.bitCount(ends[node]);
            }
            isKept = true;
            return arrows;
        }

        boolean isLikeCopy() {
            if (!isKept) {
                throw new IllegalStateException("no graph is kept");
            }
            for (int low = 0; low < NODES; low++) {
                for (int high = low + 1; high < NODES; high++) {
                    boolean isJoined = areJoined(ends, low, high);
                    if (isJoined != areJoined(keptEnds, low, high)) {
                        return false;
                    }
                    if (!isJoined && (ends[low] & ends[high]) != (keptEnds[low] & keptEnds[high])) {
                        return false;
                    }
                }
            }
            return true;
        }

        private void needNodes(int one, int other) {
            if (one < 0 || one >= NODES || other < 0 || other >= NODES) {
                throw new IndexOutOfBoundsException("no such node");
            }
            if (one == other) {
                throw new IllegalArgumentException("both nodes are the same");
            }
        }

        private int reachableFrom(int start) {
            int reached = 1 << start;
            // Each round goes one arrow further, and no shortest way has more arrows than there are nodes.
            for (int round = 0; round < NODES; round++) {
                for (int node = 0; node < NODES; node++) {
                    reached |= (reached >> node & 1) != 0 ? ends[node] : 0;
                }
            }
            return reached;
        }

        private static boolean areJoined(int[] ends, int one, int other) {
            return (ends[one] >> other & 1) != 0 || (ends[other] >> one & 1) != 0;
        }

        /** Whether an open way goes on to the goal; at the start, before and at are the same node. */
        private static boolean hasOpenWay(int[] ends, int before, int at, int goal, int seen, int set, int roused) {
            if (Integer.bitCount(seen) > NODES) {
                return false;
            }
            for (int next = 0; next < NODES; next++) {
                if ((seen >> next & 1) != 0 || !areJoined(ends, at, next)) {
                    continue;
                }
                boolean isMeeting = (ends[before] >> at & 1) != 0 && (ends[next] >> at & 1) != 0;
                boolean isOpen = isMeeting ? (roused >> at & 1) != 0 : (set >> at & 1) == 0;
                if (isOpen && (next == goal || hasOpenWay(ends, at, next, goal, seen | 1 << next, set, roused))) {
                    return true;
                }
            }
            return false;
        }
    }

    /** The told ties and what follows from them. */
    private static final class Ties {
        private static final int MOST = 10;
        private static final int SETS = 16;
        private static final int TRIPLES = SETS * SETS * SETS;

        private int count;
        private final int[] told = new int[MOST];
        private final boolean[] known = new boolean[TRIPLES];

        int tell(int a, int b, int c) {
            needTie(a, b, c);
            if (count >= MOST) {
                throw new IllegalStateException("there are 10 ties");
            }
            told[count] = numberOf(a, b, c);
            count++;
            return count;
        }

        int clear() {
            int before = count;
            count = 0;
            return before;
        }

        boolean isImplied(int a, int b, int c) {
            needTie(a, b, c);
            for (int triple = 0; triple < TRIPLES; triple++) {
                known[triple] = false;
            }
            for (int i = 0; i < count; i++) {
                known[told[i]] = true;
            }
            boolean isGrowing = true;
            // Each round but the last makes at least one more triple known.
            for (int round = 0; round <= TRIPLES && isGrowing; round++) {
                isGrowing = false;
                for (int triple = 0; triple < TRIPLES; triple++) {
                    if (known[triple] && spreadFrom(triple)) {
                        isGrowing = true;
                    }
                }
            }
            return known[numberOf(a, b, c)];
        }

        private void needTie(int a, int b, int c) {
            if (a < 1 || a >= SETS || b < 1 || b >= SETS || c < 0 || c >= SETS) {
                throw new IllegalArgumentException("a and b are 1 to 15, c is 0 to 15");
            }
            if ((a & b) != 0 || (a & c) != 0 || (b & c) != 0) {
                throw new IllegalArgumentException("two sets have a variable in common");
            }
        }

        private static int numberOf(int a, int b, int c) {
            return (a & SETS - 1) << 8 | (b & SETS - 1) << 4 | c & SETS - 1;
        }

        private boolean spreadFrom(int triple) {
            int a = triple >> 8;
            int b = triple >> 4 & SETS - 1;
            int c = triple & SETS - 1;
            boolean isGrowing = learn(b, a, c);
            for (int d = 1; d < SETS; d++) {
                if ((d & ~b) == 0 && d != b) {
                    isGrowing |= learn(a, b & ~d, c);
                    isGrowing |= learn(a, b & ~d, c | d);
                }
                if ((d & ~c) == 0 && known[numberOf(a, d, c & ~d)]) {
                    isGrowing |= learn(a, b | d, c & ~d);
                }
            }
            return isGrowing;
        }

        private boolean learn(int a, int b, int c) {
            int triple = numberOf(a, b, c);
            if (known[triple]) {
                return false;
            }
            known[triple] = true;
            return true;
        }
    }

    /** The scheme of rows by which parties share a secret. */
    private static final class Secrets {
        private static final int PARTIES = 5;
        private static final int ALL_SETS = 1 << PARTIES;
        private static final int MOST = 10;
        private static final int PLACES = 4;

        private int modulus = 2;
        private int rowCount;
        private final int[] parties = new int[MOST];
        private final int[] rows = new int[MOST];
        private int allowedCount;
        private final int[] allowed = new int[MOST];
        private boolean isDealt;
        private final int[] shares = new int[MOST];
        private final int[] hidden = new int[PLACES];
        private final Basis basis = new Basis();

        int begin(int prime) {
            if (prime != 2 && prime != 3 && prime != 5 && prime != 7 && prime != 11 && prime != 13) {
                throw new IllegalArgumentException("a prime is 2, 3, 5, 7, 11 or 13");
            }
            int before = rowCount;
            modulus = prime;
            rowCount = 0;
            allowedCount = 0;
            isDealt = false;
            return before;
        }

        int addRow(int party, int places) {
            if (party < 0 || party >= PARTIES) {
                throw new IndexOutOfBoundsException("no such party");
            }
            if (places < 0 || places >= modulus * wholeSecret()) {
                throw new IllegalArgumentException("a row has four places");
            }
            if (rowCount >= MOST) {
                throw new IllegalStateException("there are 10 rows");
            }
            parties[rowCount] = party;
            rows[rowCount] = places;
            rowCount++;
            isDealt = false;
            return rowCount - 1;
        }

        boolean isOpening(int set) {
            needSet(set);
            gather(set);
            return basis.spans(wholeSecret());
        }

        int addAllowed(int set) {
            if (set < 1 || set >= ALL_SETS) {
                throw new IllegalArgumentException("a set that is allowed is 1 to 31");
            }
            if (allowedCount >= MOST) {
                throw new IllegalStateException("there are 10 allowed sets");
            }
            allowed[allowedCount] = set;
            allowedCount++;
            return allowedCount;
        }

        boolean hasAllowed(int set) {
            needSet(set);
            for (int i = 0; i < allowedCount; i++) {
                if ((allowed[i] & ~set) == 0) {
                    return true;
                }
            }
            return false;
        }

        int firstMisfit() {
            for (int set = 0; set < ALL_SETS; set++) {
                if (isOpening(set) != hasAllowed(set)) {
                    return set;
                }
            }
            throw new NoSuchElementException("no set is a misfit");
        }

        int dealShares(int secret, int seed) {
            if (secret < 0 || secret >= modulus || seed < 0 || seed > 99999) {
                throw new IllegalArgumentException("the secret is below the prime, the seed 0 to 99999");
            }
            hidden[0] = secret;
            long z = seed;
            for (int place = 1; place < PLACES; place++) {
                z = (z * 1103515245L + 12345L) % 2147483648L;
                hidden[place] = (int) (z / 65536L % modulus);
            }
            for (int row = 0; row < rowCount; row++) {
                shares[row] = shareOf(rows[row]);
            }
            isDealt = true;
            return rowCount;
        }

        int toldShare(int row) {
            needDealt();
            if (row < 0 || row >= rowCount) {
                throw new IndexOutOfBoundsException("no such row");
            }
            return shares[row];
        }

        int putShare(int row, int share) {
            int before = toldShare(row);
            if (share < 0 || share >= modulus) {
                throw new IllegalArgumentException("a share is below the prime");
            }
            shares[row] = share;
            return before;
        }

        boolean areConsistent(int set) {
            needDealt();
            needSet(set);
            gather(set);
            return !basis.hasClash();
        }

        int findSecret(int set) {
            needDealt();
            if (!isOpening(set)) {
                throw new NoSuchElementException("the set does not open");
            }
            if (basis.hasClash()) {
                throw new UnsupportedOperationException("the shares do not agree");
            }
            return basis.valueOf(wholeSecret());
        }

        long sumAfter(long start) {
            long sum = start;
            for (int row = 0; row < rowCount && isDealt; row++) {
                sum = 31 * sum + shares[row];
            }
            return sum;
        }

        private void needSet(int set) {
            if (set < 0 || set >= ALL_SETS) {
                throw new IllegalArgumentException("a set is 0 to 31");
            }
        }

        private void needDealt() {
            if (!isDealt) {
                throw new IllegalStateException("nothing is dealt");
            }
        }

        /** The places of the row that is the secret itself: 1 in the place 0, which is the highest. */
        private int wholeSecret() {
            return modulus * modulus * modulus;
        }

        private void gather(int set) {
            basis.begin(modulus);
            for (int row = 0; row < rowCount; row++) {
                if ((set >> parties[row] & 1) != 0) {
                    basis.add(rows[row], isDealt ? shares[row] : 0);
                }
            }
        }

        private int shareOf(int places) {
            int sum = 0;
            int rest = places;
            for (int place = PLACES - 1; place >= 0; place--) {
                sum += rest % modulus * hidden[place];
                rest /= modulus;
            }
            return sum % modulus;
        }
    }

    /** The signs with their weights, their lengths by joining, and the word with its interval. */
    private static final class Code {
        private static final int MOST_SIGNS = 8;
        private static final int MOST_SPELLED = 6;
        private static final int MOST_UNITS = 1 << MOST_SIGNS - 1;
        private static final int TOO_MUCH = 1000000;

        private int count;
        private final int[] weights = new int[MOST_SIGNS];
        private final int[] lengths = new int[MOST_SIGNS];
        private final int[] groups = new int[MOST_SIGNS];
        private final int[] groupWeights = new int[MOST_SIGNS];
        private final int[] costs = new int[MOST_UNITS + 1];
        private int spelled;
        private long lowerEnd = 0;
        private long width = 1;
        private long whole = 1;

        int addSign(int weight) {
            if (weight < 1 || weight > 99) {
                throw new IllegalArgumentException("a weight is 1 to 99");
            }
            if (count >= MOST_SIGNS) {
                throw new IllegalStateException("there are 8 signs");
            }
            weights[count] = weight;
            count++;
            clearWord();
            return count - 1;
        }

        int leastCost() {
            if (count == 0) {
                throw new NoSuchElementException("there is no sign");
            }
            return joinedCost();
        }

        int lengthOf(int sign) {
            needSign(sign);
            joinAll();
            return lengths[sign];
        }

        int lengthen(int sign) {
            needSign(sign);
            if (spelled >= MOST_SPELLED) {
                throw new IllegalStateException("the word has 6 signs");
            }
            int lower = 0;
            for (int other = 0; other < sign; other++) {
                lower += weights[other];
            }
            // Six signs keep the whole below 792 to the power of 6, which a long holds.
            lowerEnd = lowerEnd * sumOfWeights() + width * lower;
            width *= weights[sign];
            whole *= sumOfWeights();
            spelled++;
            return spelled;
        }

        long intervalPart(boolean isWidth) {
            return isWidth ? width : lowerEnd;
        }

        long intervalWhole() {
            return whole;
        }

        int sumOfWeights() {
            int sum = 0;
            for (int sign = 0; sign < count; sign++) {
                sum += weights[sign];
            }
            return sum;
        }

        int clear() {
            int before = count;
            count = 0;
            clearWord();
            return before;
        }

        /** Whether no lengths cost less; without signs there is nothing to cost. */
        boolean isJoiningBest() {
            return count == 0 || joinedCost() == leastOfAllLengths();
        }

        private void needSign(int sign) {
            if (sign < 0 || sign >= count) {
                throw new IndexOutOfBoundsException("no such sign");
            }
        }

        private void clearWord() {
            spelled = 0;
            lowerEnd = 0;
            width = 1;
            whole = 1;
        }

        private int joinedCost() {
            joinAll();
            int cost = 0;
            for (int sign = 0; sign < count; sign++) {
                cost += weights[sign] * lengths[sign];
            }
            return cost;
        }

        /** A group is known by its lowest sign; a group that has gone into another one weighs 0. */
        private void joinAll() {
            for (int sign = 0; sign < count; sign++) {
                lengths[sign] = 0;
                groups[sign] = sign;
                groupWeights[sign] = weights[sign];
            }
            for (int join = 1; join < count; join++) {
                int one = lightestBut(-1);
                int other = lightestBut(one);
                if (one >= 0 && other >= 0) {
                    joinGroups(Math.min(one, other), Math.max(one, other));
                }
            }
        }

        private int lightestBut(int group) {
            int lightest = -1;
            for (int other = 0; other < count; other++) {
                if (other == group || groupWeights[other] == 0) {
                    continue;
                }
                if (lightest < 0 || groupWeights[other] < groupWeights[lightest]) {
                    lightest = other;
                }
            }
            return lightest;
        }

        private void joinGroups(int low, int high) {
            for (int sign = 0; sign < count; sign++) {
                if (groups[sign] == low || groups[sign] == high) {
                    lengths[sign]++;
                    groups[sign] = low;
                }
            }
            groupWeights[low] += groupWeights[high];
            groupWeights[high] = 0;
        }

        /**
         * The least cost over all lengths below the number of signs. A code with certain lengths can be if one half
         * to the power of each, summed, is at most 1; so each length takes its units of that 1 away.
         */
        private int leastOfAllLengths() {
            int units = 1 << count - 1;
            for (int left = 0; left <= units && left <= MOST_UNITS; left++) {
                costs[left] = 0;
            }
            for (int sign = 0; sign < count; sign++) {
                // Downwards, so that what fewer units leave is still without this sign.
                for (int left = Math.min(units, MOST_UNITS); left >= 0; left--) {
                    costs[left] = leastWith(weights[sign], left, units);
                }
            }
            return costs[Math.min(units, MOST_UNITS)];
        }

        private int leastWith(int weight, int left, int units) {
            int least = TOO_MUCH;
            for (int length = 0; length < count; length++) {
                int taken = units >> length;
                if (taken >= 1 && taken <= left) {
                    least = Math.min(least, costs[left - taken] + weight * length);
                }
            }
            return least;
        }
    }

    /** The text of bits. */
    private static final class Text {
        private static final int MOST = 40;

        private int count;
        private final int[] bits = new int[MOST];
        private final long[] found = new long[MOST];

        int addBit(int bit) {
            if (bit != 0 && bit != 1) {
                throw new IllegalArgumentException("a bit is 0 or 1");
            }
            if (count >= MOST) {
                throw new IllegalStateException("the text has 40 bits");
            }
            bits[count] = bit;
            count++;
            return count;
        }

        int countPhrases() {
            int phrases = 0;
            // A 1 ahead of its bits tells phrases of unlike lengths apart.
            long phrase = 1;
            for (int i = 0; i < count; i++) {
                phrase = 2 * phrase + bits[i];
                if (!isFound(phrase, phrases)) {
                    found[phrases] = phrase;
                    phrases++;
                    phrase = 1;
                }
            }
            return phrase == 1 ? phrases : phrases + 1;
        }

        int clear() {
            int before = count;
            count = 0;
            return before;
        }

        private boolean isFound(long phrase, int phrases) {
            for (int i = 0; i < phrases && i < MOST; i++) {
                if (found[i] == phrase) {
                    return true;
                }
            }
            return false;
        }
    }

    /** The inputs; the bits of each are the inputs with which it is confused, itself among them. */
    private static final class Channel {
        private static final int MOST_INPUTS = 6;
        private static final int MOST_WORDS = MOST_INPUTS * MOST_INPUTS;

        private int count;
        private final int[] near = new int[MOST_INPUTS];
        private final long[] nearWords = new long[MOST_WORDS];
        private final int[] fewest = new int[1 << MOST_INPUTS];

        Channel() {
            count = 1;
            near[0] = 1;
        }

        int lay(int inputs) {
            if (inputs < 1 || inputs > MOST_INPUTS) {
                throw new IllegalArgumentException("there are 1 to 6 inputs");
            }
            int before = count;
            count = inputs;
            for (int input = 0; input < MOST_INPUTS; input++) {
                near[input] = 1 << input;
            }
            return before;
        }

        boolean put(int a, int b, boolean are) {
            if (a < 0 || a >= count || b < 0 || b >= count) {
                throw new IndexOutOfBoundsException("no such input");
            }
            if (a == b) {
                throw new IllegalArgumentException("both inputs are the same");
            }
            boolean were = (near[a] >> b & 1) != 0;
            near[a] = are ? near[a] | 1 << b : near[a] & ~(1 << b);
            near[b] = are ? near[b] | 1 << a : near[b] & ~(1 << a);
            return were;
        }

        int mostWords(int length) {
            if (length < 1 || length > 2) {
                throw new IllegalArgumentException("a length is 1 or 2");
            }
            int words = length == 1 ? count : count * count;
            for (int word = 0; word < words; word++) {
                nearWords[word] = length == 1 ? near[word] : nearPairs(word / count, word % count);
            }
            return mostOf((1L << words) - 1, nearWords, 0);
        }

        int fewestCliques() {
            fewest[0] = 0;
            for (int set = 1; set < 1 << count; set++) {
                int lowest = set & -set;
                fewest[set] = MOST_INPUTS;
                for (int clique = 1; clique <= set; clique++) {
                    if ((clique & ~set) == 0 && (clique & lowest) != 0 && isClique(clique)) {
                        fewest[set] = Math.min(fewest[set], 1 + fewest[set & ~clique]);
                    }
                }
            }
            return fewest[(1 << count) - 1];
        }

        private long nearPairs(int first, int second) {
            long words = 0;
            for (int i = 0; i < count; i++) {
                for (int j = 0; j < count; j++) {
                    if ((near[first] >> i & 1) != 0 && (near[second] >> j & 1) != 0) {
                        words |= 1L << i * count + j;
                    }
                }
            }
            return words;
        }

        private boolean isClique(int set) {
            for (int input = 0; input < count; input++) {
                if ((set >> input & 1) != 0 && (set & ~near[input]) != 0) {
                    return false;
                }
            }
            return true;
        }

        /**
         * The most of the words left of which no two are confused. What is confused with nothing can always be
         * taken, and what stands in the way of all that another one stands in the way of can always be left out;
         * otherwise the word confused with most others is tried both ways.
         */
        private static int mostOf(long left, long[] near, int depth) {
            if (left == 0 || depth > MOST_WORDS) {
                return 0;
            }
            int busiest = 0;
            int mostNear = 0;
            for (int word = 0; word < near.length && word < MOST_WORDS; word++) {
                if ((left >> word & 1) == 0) {
                    continue;
                }
                int nearLeft = Long.bitCount(near[word] & left);
                if (nearLeft <= 1) {
                    return 1 + mostOf(left & ~(1L << word), near, depth + 1);
                }
                int needless = needlessBeside(word, left, near);
                if (needless >= 0) {
                    return mostOf(left & ~(1L << needless), near, depth + 1);
                }
                if (nearLeft > mostNear) {
                    busiest = word;
                    mostNear = nearLeft;
                }
            }
            int taken = 1 + mostOf(left & ~(near[busiest] | 1L << busiest), near, depth + 1);
            return Math.max(taken, mostOf(left & ~(1L << busiest), near, depth + 1));
        }

        /** A word near the given one that is near all to which that one is near; -1 if there is none. */
        private static int needlessBeside(int word, long left, long[] near) {
            long nearLeft = near[word] & left;
            for (int other = 0; other < near.length && other < MOST_WORDS; other++) {
                if (other != word && (nearLeft >> other & 1) != 0 && (nearLeft & ~near[other]) == 0) {
                    return other;
                }
            }
            return -1;
        }
    }

    /** The receivers and the bits that they know. */
    private static final class Audience {
        private static final int MOST = 4;

        private int count = 1;
        private final int[] known = new int[MOST];

        int lay(int receivers) {
            if (receivers < 1 || receivers > MOST) {
                throw new IllegalArgumentException("there are 1 to 4 receivers");
            }
            int before = count;
            count = receivers;
            for (int receiver = 0; receiver < MOST; receiver++) {
                known[receiver] = 0;
            }
            return before;
        }

        int put(int receiver, int set) {
            if (receiver < 0 || receiver >= count) {
                throw new IndexOutOfBoundsException("no such receiver");
            }
            if (set < 0 || set >= 1 << count || (set >> receiver & 1) != 0) {
                throw new IllegalArgumentException("a receiver knows bits that are there, but not its own one");
            }
            int before = known[receiver];
            known[receiver] = set;
            return before;
        }

        /** Tries all squares; a square's rows stand in one number, four bits each. */
        int leastRank() {
            int wanted = 0;
            int free = 0;
            for (int receiver = 0; receiver < count; receiver++) {
                wanted |= 1 << receiver * MOST + receiver;
                free |= known[receiver] << receiver * MOST;
            }
            int least = count;
            int chosen = 0;
            for (int square = 0; square < 1 << Integer.bitCount(free); square++) {
                least = Math.min(least, rankOf(wanted | chosen));
                // This borrow runs through the free places alone, so it steps to the next choice of them.
                chosen = chosen - free & free;
            }
            return least;
        }

        private static int rankOf(int square) {
            int rank = 0;
            int left = square;
            for (int row = 0; row < MOST; row++) {
                int pivot = left >> row * MOST & 15;
                int lowest = pivot & -pivot;
                for (int other = row + 1; other < MOST; other++) {
                    if ((left >> other * MOST & lowest) != 0) {
                        left ^= pivot << other * MOST;
                    }
                }
                rank += pivot != 0 ? 1 : 0;
            }
            return rank;
        }
    }
}
