import java.util.Arrays;
import java.util.NoSuchElementException;

/**
 * A maker of controllers from wishes over time: formulas, words that go on for ever, the smallest
 * machine that keeps wishes or breaks them, runs of it, and games with parities.
 */
public final class Parityforge {
    private final Alphabet alphabet;
    private final Formulas formulas;
    private final Word word;
    private final Forge forge;
    private final Game game;
    private boolean running;
    private int runState;
    private int runSteps;

    public Parityforge(int inputs, int outputs) {
        alphabet = new Alphabet(nearest(inputs), nearest(outputs));
        formulas = new Formulas();
        word = new Word(formulas, alphabet.inputs);
        forge = new Forge(formulas, alphabet);
        game = new Game();
    }

    private static int nearest(int number) {
        return number < 1 ? 1 : number > 2 ? 2 : number;
    }

    // ---- formulas and words

    public int formula(char kind, int a, int b) throws IllegalArgumentException, IndexOutOfBoundsException,
            UnsupportedOperationException, IllegalStateException {
        int parts = Formulas.partsOf(kind);
        if (parts < 0 || kind == 'i' && !inRange(a, alphabet.inputs) || kind == 'o' && !inRange(a, alphabet.outputs)) {
            throw new IllegalArgumentException();
        }
        if (parts >= 1 && !formulas.has(a) || parts == 2 && !formulas.has(b)) {
            throw new IndexOutOfBoundsException();
        }
        if (formulas.sizeWith(kind, a, b) > Formulas.LARGEST) {
            throw new UnsupportedOperationException();
        }
        if (formulas.count >= Formulas.MOST) {
            throw new IllegalStateException();
        }
        return formulas.add(kind, a, b);
    }

    public int size(int formula) throws IndexOutOfBoundsException {
        checkFormula(formula);
        return formulas.size[formula];
    }

    public boolean canBe(int formula) throws IndexOutOfBoundsException {
        checkFormula(formula);
        return forge.canHold(formula, Forge.PLAIN);
    }

    public boolean isValid(int formula) throws IndexOutOfBoundsException {
        checkFormula(formula);
        return !forge.canHold(formula, Forge.CONTRARY);
    }

    public boolean follows(int from, int formula) throws IndexOutOfBoundsException {
        checkFormula(from);
        checkFormula(formula);
        return !forge.canHoldWithout(from, formula);
    }

    public int letter(int letter) throws IllegalArgumentException, IllegalStateException {
        if (!inRange(letter, alphabet.letters)) {
            throw new IllegalArgumentException();
        }
        if (word.length >= Word.LONGEST) {
            throw new IllegalStateException();
        }
        word.add(letter);
        return word.length;
    }

    public int setLoop(int place) throws IndexOutOfBoundsException {
        if (!inRange(place, word.length)) {
            throw new IndexOutOfBoundsException();
        }
        int before = word.loop;
        word.loop = place;
        return before;
    }

    public int clearWord() {
        int before = word.length;
        word.empty();
        return before;
    }

    public boolean holds(int formula, int place) throws IndexOutOfBoundsException, IllegalArgumentException,
            IllegalStateException {
        checkFormula(formula);
        if (!inRange(place, 100)) {
            throw new IllegalArgumentException();
        }
        if (word.length == 0) {
            throw new IllegalStateException();
        }
        return word.isTrueAt(formula, place);
    }

    // ---- wishes and what is found

    public int assume(int formula) throws IndexOutOfBoundsException, IllegalStateException {
        checkFormula(formula);
        if (forge.assumed >= Forge.MOST_ASSUMED) {
            throw new IllegalStateException();
        }
        running = false;
        return forge.addAssumption(formula);
    }

    public int wish(int formula) throws IndexOutOfBoundsException, IllegalStateException {
        checkFormula(formula);
        if (forge.wished >= Forge.MOST_WISHED) {
            throw new IllegalStateException();
        }
        running = false;
        return forge.addWish(formula);
    }

    public int drop() {
        running = false;
        return forge.dropAll();
    }

    public char verdict() {
        return forge.kindFound();
    }

    public int states() {
        return forge.kindFound() == Forge.NOTHING ? 0 : forge.found.states;
    }

    public int given(int state, int letter) throws UnsupportedOperationException, IndexOutOfBoundsException {
        char kind = forge.kindFound();
        if (kind == Forge.NOTHING) {
            throw new UnsupportedOperationException();
        }
        Machine found = forge.found;
        boolean meansLetter = kind == Forge.CONTROLLER;
        if (!inRange(state, found.states) || meansLetter && !inRange(letter, found.choices)) {
            throw new IndexOutOfBoundsException();
        }
        return found.answer(state, meansLetter ? letter : 0);
    }

    public int next(int state, int letter) throws UnsupportedOperationException, IndexOutOfBoundsException {
        if (forge.kindFound() == Forge.NOTHING) {
            throw new UnsupportedOperationException();
        }
        Machine found = forge.found;
        if (!inRange(state, found.states) || !inRange(letter, found.choices)) {
            throw new IndexOutOfBoundsException();
        }
        return found.target(state, letter);
    }

    public int core() throws UnsupportedOperationException {
        if (forge.kindFound() != Forge.ENVIRONMENT) {
            throw new UnsupportedOperationException();
        }
        return Integer.bitCount(forge.coreWishes());
    }

    public int coreAt(int index) throws UnsupportedOperationException, IndexOutOfBoundsException {
        if (forge.kindFound() != Forge.ENVIRONMENT) {
            throw new UnsupportedOperationException();
        }
        int wishes = forge.coreWishes();
        if (!inRange(index, Integer.bitCount(wishes))) {
            throw new IndexOutOfBoundsException();
        }
        return bitAt(wishes, index);
    }

    public char verdictWith(int formula) throws IndexOutOfBoundsException {
        checkFormula(formula);
        return forge.kindWith(formula);
    }

    // ---- runs

    public int begin() throws UnsupportedOperationException {
        if (forge.kindFound() == Forge.NOTHING) {
            throw new UnsupportedOperationException();
        }
        running = true;
        runState = 0;
        runSteps = 0;
        return forge.found.states;
    }

    public int step(int letter) throws IllegalStateException, IllegalArgumentException {
        checkRun();
        if (!inRange(letter, forge.found.choices)) {
            throw new IllegalArgumentException();
        }
        int answer = forge.found.answer(runState, letter);
        runState = forge.found.target(runState, letter);
        runSteps++;
        return answer;
    }

    public int state() throws IllegalStateException {
        checkRun();
        return runState;
    }

    public int steps() throws IllegalStateException {
        checkRun();
        return runSteps;
    }

    public int replay(int first, int second) throws UnsupportedOperationException, IllegalArgumentException {
        if (forge.kindFound() == Forge.NOTHING) {
            throw new UnsupportedOperationException();
        }
        Machine found = forge.found;
        if (!inRange(first, found.choices) || !inRange(second, found.choices)) {
            throw new IllegalArgumentException();
        }
        return found.play(first | second << 2, 2, 0, word);
    }

    // ---- games

    public int node(int owner, int priority) throws IllegalArgumentException, IllegalStateException {
        if (!inRange(owner, 2) || !inRange(priority, Game.PRIORITIES)) {
            throw new IllegalArgumentException();
        }
        if (game.count >= Game.MOST) {
            throw new IllegalStateException();
        }
        return game.add(owner, priority);
    }

    public boolean edge(int from, int to, boolean is) throws IndexOutOfBoundsException {
        checkNode(from);
        checkNode(to);
        return game.putEdge(from, to, is);
    }

    public int setPriority(int node, int priority) throws IndexOutOfBoundsException, IllegalArgumentException {
        checkNode(node);
        if (!inRange(priority, Game.PRIORITIES)) {
            throw new IllegalArgumentException();
        }
        return game.putPriority(node, priority);
    }

    public int clearGame() {
        return game.empty();
    }

    public int winner(int node) throws IndexOutOfBoundsException, IllegalStateException {
        checkNode(node);
        checkEdges();
        return game.playerWinning(node);
    }

    public int winnerAnew(int node) throws IndexOutOfBoundsException, IllegalStateException {
        checkNode(node);
        checkEdges();
        return (game.wonByMeasures() >> node & 1) != 0 ? 0 : 1;
    }

    public int won(int player) throws IllegalArgumentException, IllegalStateException {
        if (!inRange(player, 2)) {
            throw new IllegalArgumentException();
        }
        checkEdges();
        return Integer.bitCount(game.wonNodes(player));
    }

    public int move(int node) throws IndexOutOfBoundsException, IllegalStateException, NoSuchElementException {
        checkNode(node);
        checkEdges();
        if (!game.isWonByOwner(node)) {
            throw new NoSuchElementException();
        }
        return game.stepFrom(node);
    }

    public int lasting(int node) throws IndexOutOfBoundsException, IllegalStateException {
        checkNode(node);
        checkEdges();
        return game.greatestForEver(node);
    }

    public long sum() throws IllegalStateException {
        checkEdges();
        return game.weightedSum();
    }

    public float wonShare() throws ArithmeticException, IllegalStateException {
        if (game.count == 0) {
            throw new ArithmeticException();
        }
        checkEdges();
        return (float) Integer.bitCount(game.wonNodes(0)) / (float) game.count;
    }

    public double meanSize() throws ArithmeticException {
        if (formulas.count == 0) {
            throw new ArithmeticException();
        }
        return (double) formulas.sizeOfAll() / (double) formulas.count;
    }

    public boolean isTrue() {
        boolean alike = !game.hasAllEdges() || game.wonNodes(0) == game.wonByMeasures();
        boolean nothing = forge.kindFound() == Forge.NOTHING;
        return alike && (nothing || forge.isRightOnShortWords());
    }

    private static boolean inRange(int number, int bound) {
        return number >= 0 && number < bound;
    }

    private void checkFormula(int formula) {
        if (!formulas.has(formula)) {
            throw new IndexOutOfBoundsException();
        }
    }

    private void checkNode(int node) {
        if (!inRange(node, game.count)) {
            throw new IndexOutOfBoundsException();
        }
    }

    private void checkEdges() {
        if (!game.hasAllEdges()) {
            throw new IllegalStateException();
        }
    }

    private void checkRun() {
        if (!running) {
            throw new IllegalStateException();
        }
    }

    /** The place of the bit of a set that has so many lower ones in it. */
    private static int bitAt(int set, int index) {
        int rest = set;
        for (int i = 0; i < index; i++) {
            rest &= rest - 1;
        }
        return lowest(rest);
    }

    /** The lowest number in a set of bits, 32 if it is empty. */
    private static int lowest(int set) {
        return Integer.bitCount((set & -set) - 1);
    }

    /** How many letters there are: the inputs are the low bits of a letter, the outputs the others. */
    private static final class Alphabet {
        final int inputs;
        final int outputs;
        final int inputLetters;
        final int outputLetters;
        final int letters;

        Alphabet(int inputs, int outputs) {
            this.inputs = inputs;
            this.outputs = outputs;
            inputLetters = 1 << inputs;
            outputLetters = 1 << outputs;
            letters = 1 << inputs + outputs;
        }
    }

    /** The formulas that were made, each of parts with lower numbers. */
    private static final class Formulas {
        static final int MOST = 60;
        static final int LARGEST = 8;

        final char[] kind = new char[MOST];
        final int[] first = new int[MOST];
        final int[] second = new int[MOST];
        final int[] size = new int[MOST];
        /** For each formula the set of the formulas in it, itself too, as bits. */
        final long[] within = new long[MOST];
        int count;

        /** How many formulas a kind is made of, -1 if there is no such kind. */
        static int partsOf(char kind) {
            switch (kind) {
                case 't': case 'f': case 'i': case 'o':
                    return 0;
                case '!': case 'X': case 'F': case 'G':
                    return 1;
                case '&': case '|': case '>': case 'U': case 'W': case 'R':
                    return 2;
                default:
                    return -1;
            }
        }

        boolean has(int formula) {
            return formula >= 0 && formula < count;
        }

        int sizeWith(char kind, int a, int b) {
            int parts = partsOf(kind);
            int sum = 1;
            if (parts >= 1 && has(a)) {
                sum += size[a];
            }
            if (parts == 2 && has(b)) {
                sum += size[b];
            }
            return sum;
        }

        int add(char newKind, int a, int b) {
            int formula = count;
            if (formula >= MOST) {
                return formula;
            }
            int parts = partsOf(newKind);
            kind[formula] = newKind;
            first[formula] = newKind == 't' || newKind == 'f' ? 0 : a;
            second[formula] = parts == 2 ? b : 0;
            size[formula] = sizeWith(newKind, a, b);
            long set = 1L << formula;
            if (parts >= 1 && has(a)) {
                set |= within[a];
            }
            if (parts == 2 && has(b)) {
                set |= within[b];
            }
            within[formula] = set;
            count = formula + 1;
            return formula;
        }

        int sizeOfAll() {
            int sum = 0;
            for (int i = 0; i < count; i++) {
                sum += size[i];
            }
            return sum;
        }
    }

    /** A word that goes on for ever; what formulas are at its places stands in sets of places, as bits. */
    private static final class Word {
        static final int LONGEST = 12;

        final Formulas formulas;
        final int inputs;
        final int[] letters = new int[LONGEST];
        final int[] places = new int[Formulas.MOST];
        int length;
        int loop;

        Word(Formulas formulas, int inputs) {
            this.formulas = formulas;
            this.inputs = inputs;
        }

        void empty() {
            length = 0;
            loop = 0;
        }

        void add(int letter) {
            if (length < LONGEST) {
                letters[length] = letter;
                length++;
            }
        }

        boolean isTrueAt(int formula, int place) {
            int at = place;
            if (at >= length) {
                int round = length - loop;
                at = round > 0 ? loop + (at - loop) % round : 0;
            }
            return (placesOf(formula) >> at & 1) != 0;
        }

        /** The places at which a formula holds; its parts are looked at first, as they have lower numbers. */
        int placesOf(int formula) {
            if (!formulas.has(formula)) {
                return 0;
            }
            long rest = formulas.within[formula];
            for (int i = 0; i < Formulas.LARGEST && rest != 0; i++) {
                int part = Long.bitCount((rest & -rest) - 1);
                rest &= rest - 1;
                if (part < Formulas.MOST) {
                    places[part] = placesBy(formulas.kind[part], formulas.first[part], formulas.second[part]);
                }
            }
            return places[formula];
        }

        private int placesBy(char kind, int first, int second) {
            int all = (1 << length) - 1;
            int a = first >= 0 && first < places.length ? places[first] : 0;
            int b = second >= 0 && second < places.length ? places[second] : 0;
            switch (kind) {
                case 't': return all;
                case 'i': return placesOfBit(first);
                case 'o': return placesOfBit(inputs + first);
                case '!': return all & ~a;
                case '&': return a & b;
                case '|': return a | b;
                case '>': return all & ~a | b;
                case 'X': return ahead(a);
                case 'F': return until(all, a, 0);
                case 'G': return release(0, a, all);
                case 'U': return until(a, b, 0);
                case 'W': return until(a, b, all);
                case 'R': return release(a, b, all);
                default: return 0;
            }
        }

        private int placesOfBit(int bit) {
            int set = 0;
            for (int i = 0; i < length; i++) {
                set |= (letters[i] >> bit & 1) << i;
            }
            return set;
        }

        /** The places whose next one is in the set. */
        private int ahead(int set) {
            return length == 0 ? 0 : set >> 1 | (set >> loop & 1) << length - 1;
        }

        /** Each round tells one place more; begun with all places, it tells what may also never come. */
        private int until(int stay, int goal, int start) {
            int before = start;
            int set = goal | stay & ahead(start);
            for (int i = 0; i < length && set != before; i++) {
                before = set;
                set = goal | stay & ahead(set);
            }
            return set;
        }

        private int release(int freed, int kept, int start) {
            int before = start;
            int set = kept & (freed | ahead(start));
            for (int i = 0; i < length && set != before; i++) {
                before = set;
                set = kept & (freed | ahead(set));
            }
            return set;
        }
    }

    /**
     * A machine that reads words from its state 0 on, for one formula or its contrary: a word is taken if
     * some way through it sees each mark again and again. An edge is its target and, above it, its marks.
     */
    private static final class Automaton {
        static final int TARGET_BITS = 8;
        static final int TARGETS = (1 << TARGET_BITS) - 1;

        final int marks;
        final int letters;
        /** The letter bits that the formula looks at: letters that are alike in them have one row. */
        final int used;
        /** For each state and letter where its edges begin; they end where the next row begins. */
        final int[] start;
        final int[] edges;

        Automaton(int marks, int letters, int used, int[] start, int[] edges) {
            this.marks = marks;
            this.letters = letters;
            this.used = used;
            this.start = start;
            this.edges = edges;
        }
    }

    /** Rows of edges, row behind row, that grow as they are written. */
    private static final class Rows {
        int[] start = new int[64];
        int[] edges = new int[64];
        int rows;
        int count;

        void clear() {
            rows = 0;
            count = 0;
            start[0] = 0;
        }

        void endRow() {
            if (rows + 1 >= start.length) {
                start = Arrays.copyOf(start, 2 * start.length);
            }
            rows++;
            start[rows] = count;
        }

        int startOf(int row) {
            return row >= 0 && row <= rows ? start[row] : count;
        }

        int at(int index) {
            return index >= 0 && index < count ? edges[index] : 0;
        }

        /** Adds an edge to the row that is being written, by rising numbers, if none there is as good. */
        void add(int edge) {
            int from = start[rows];
            int kept = from;
            for (int i = from; i < count; i++) {
                int other = edges[i];
                boolean sameTarget = (other & Automaton.TARGETS) == (edge & Automaton.TARGETS);
                if (sameTarget && (other | edge) == other) {
                    return;
                }
                if (!sameTarget || (other | edge) != edge) {
                    edges[kept] = other;
                    kept++;
                }
            }
            if (kept >= edges.length) {
                edges = Arrays.copyOf(edges, 2 * edges.length);
            }
            int at = kept;
            while (at > from && edges[at - 1] > edge) {
                edges[at] = edges[at - 1];
                at--;
            }
            edges[at] = edge;
            count = kept + 1;
        }

        boolean sameRows(int one, int other, int many) {
            int shift = startOf(other) - startOf(one);
            for (int i = 1; i <= many; i++) {
                if (startOf(other + i) - startOf(one + i) != shift) {
                    return false;
                }
            }
            for (int i = startOf(one); i < startOf(one + many); i++) {
                if (at(i) != at(i + shift)) {
                    return false;
                }
            }
            return true;
        }
    }

    /**
     * A formula or its contrary, in plainer words: each part, for itself or for its contrary, is an element
     * at some number of places ahead; so there are at most 8 elements, and those with lower numbers are
     * inside those with higher ones. For each letter an element has clauses: sets of elements, as bits, one
     * of which must hold from the next place on.
     */
    private static final class Elements {
        static final int MOST = Formulas.LARGEST;
        /** As many as there can be sets of 8 elements of which none is in another one. */
        static final int MOST_CLAUSES = 70;
        static final int NONE = -1;

        static final int TRUE = 0;
        static final int FALSE = 1;
        static final int LITERAL = 2;
        static final int AND = 3;
        static final int OR = 4;
        static final int NEXT = 5;
        /** The second part, or the first one and itself at the next place; it must come. */
        static final int UNTIL = 6;
        /** The same, but it may never come. */
        static final int UNLESS = 7;
        /** The second part, and the first one or itself at the next place; the first one may never come. */
        static final int RELEASE = 8;
        /** The same, but the first one must come. */
        static final int FREED = 9;

        final Formulas formulas;
        final Alphabet alphabet;
        final int[] form = new int[MOST];
        /** The first part of an element, perhaps none, or the bit of a literal. */
        final int[] left = new int[MOST];
        /** The second part of an element, or the value of a literal. */
        final int[] right = new int[MOST];
        /** For each formula and side, 0 for itself and 1 for its contrary, the element and how far ahead it is. */
        final int[] elementOf = new int[2 * Formulas.MOST];
        final int[] aheadOf = new int[2 * Formulas.MOST];
        final int[] needed = new int[Formulas.MOST];
        final int[] clauses;
        final int[] clauseCount;
        int count;
        /** The elements that hold at all places if at one. */
        int lasting;
        /** The elements that must not be put off for ever. */
        int promises;
        /** The letter bits that literals look at. */
        int used;

        Elements(Formulas formulas, Alphabet alphabet) {
            this.formulas = formulas;
            this.alphabet = alphabet;
            clauses = new int[alphabet.letters * MOST * MOST_CLAUSES];
            clauseCount = new int[alphabet.letters * MOST];
        }

        /** Makes the elements of a formula or of its contrary, and answers the one that is the whole. */
        int gather(int formula, int side) {
            count = 0;
            lasting = 0;
            promises = 0;
            used = 0;
            if (!formulas.has(formula)) {
                return NONE;
            }
            markNeeded(formula, side);
            for (int part = 0; part <= formula; part++) {
                for (int of = 0; of < 2; of++) {
                    if ((needed[part] >> of & 1) != 0) {
                        makePart(part, of);
                    }
                }
            }
            int whole = ahead(elementOf[2 * formula + side], aheadOf[2 * formula + side]);
            if (whole != NONE) {
                markLive(whole);
            }
            for (int letter = 0; letter < alphabet.letters; letter++) {
                for (int element = 0; element < count; element++) {
                    if ((letter & used) == letter) {
                        writeClauses(letter, element);
                    }
                }
            }
            return whole;
        }

        private void markNeeded(int formula, int side) {
            for (int part = 0; part < formula; part++) {
                needed[part] = 0;
            }
            needed[formula] = 1 << side;
            for (int part = formula; part >= 0; part--) {
                if (needed[part] != 0) {
                    char kind = formulas.kind[part];
                    int parts = Formulas.partsOf(kind);
                    int swapped = needed[part] >> 1 | (needed[part] & 1) << 1;
                    if (parts >= 1) {
                        need(formulas.first[part], kind == '!' || kind == '>' ? swapped : needed[part]);
                    }
                    if (parts == 2) {
                        need(formulas.second[part], needed[part]);
                    }
                }
            }
        }

        private void need(int part, int sides) {
            if (formulas.has(part)) {
                needed[part] |= sides;
            }
        }

        private void makePart(int part, int side) {
            char kind = formulas.kind[part];
            int first = formulas.first[part];
            int second = formulas.second[part];
            int parts = Formulas.partsOf(kind);
            int at = 2 * part + side;
            int newForm = formOf(kind, side);
            if (parts == 0) {
                boolean output = kind == 'o';
                boolean literal = output || kind == 'i';
                int bit = output ? alphabet.inputs + first : first;
                elementOf[at] = element(newForm, literal ? bit : NONE, literal ? 1 - side : NONE);
                aheadOf[at] = 0;
            } else if (first >= 0 && first < part && second >= 0 && second < part) {
                int swapped = kind == '!' || kind == '>' ? 1 - side : side;
                if (parts == 1) {
                    makeOfOne(at, kind, newForm, 2 * first + swapped);
                } else {
                    makeOfTwo(at, newForm, 2 * first + swapped, 2 * second + side);
                }
            }
        }

        /** Leaves away what does not count, as with F F a, F (a U b) or G F G a. */
        private void makeOfOne(int at, char kind, int newForm, int from) {
            int part = elementOf[from];
            int places = aheadOf[from];
            boolean lasts = part == NONE || (lasting >> part & 1) != 0;
            if (kind == 'X') {
                places++;
            } else if (kind != '!' && !lasts) {
                part = element(newForm, NONE, form[part] == newForm ? right[part] : part);
                lasts = part == NONE || (lasting >> part & 1) != 0;
            }
            elementOf[at] = part;
            aheadOf[at] = lasts ? 0 : places;
        }

        /** What stands ahead in both parts stands ahead of the whole; a U F b and a U G F b are without a. */
        private void makeOfTwo(int at, int newForm, int one, int other) {
            int first = elementOf[one];
            int second = elementOf[other];
            elementOf[at] = second;
            aheadOf[at] = aheadOf[other];
            if (first == NONE || second == NONE) {
                return;
            }
            boolean firstLasts = (lasting >> first & 1) != 0;
            boolean secondLasts = (lasting >> second & 1) != 0;
            boolean alone = secondLasts || form[second] == newForm && left[second] == NONE;
            if (alone && (newForm == UNTIL || newForm == RELEASE)) {
                return;
            }
            int firstPlaces = firstLasts ? aheadOf[other] : aheadOf[one];
            int secondPlaces = secondLasts ? firstPlaces : aheadOf[other];
            int places = Math.min(firstPlaces, secondPlaces);
            int nearFirst = ahead(first, firstPlaces - places);
            elementOf[at] = element(newForm, nearFirst, ahead(second, secondPlaces - places));
            aheadOf[at] = places;
        }

        private int ahead(int element, int places) {
            int result = element;
            for (int i = 0; i < places && i < MOST; i++) {
                result = element(NEXT, NONE, result);
            }
            return result;
        }

        private int element(int newForm, int first, int second) {
            for (int i = 0; i < count; i++) {
                if (form[i] == newForm && left[i] == first && right[i] == second) {
                    return i;
                }
            }
            if (count >= MOST) {
                return NONE;
            }
            int made = count;
            count++;
            form[made] = newForm;
            left[made] = first;
            right[made] = second;
            boolean both = first >= 0 && second >= 0 && (lasting >> first & lasting >> second & 1) != 0;
            int crossed = newForm == UNTIL ? RELEASE : newForm == RELEASE ? UNTIL : NONE;
            boolean crosses = first == NONE && second >= 0 && left[second] == NONE && form[second] == crossed;
            if (newForm == TRUE || newForm == FALSE || crosses || both && (newForm == AND || newForm == OR)) {
                lasting |= 1 << made;
            }
            return made;
        }

        private static int formOf(char kind, int side) {
            boolean plain = side == 0;
            switch (kind) {
                case 't': return plain ? TRUE : FALSE;
                case 'i': case 'o': return LITERAL;
                case '&': return plain ? AND : OR;
                case '|': case '>': return plain ? OR : AND;
                case 'F': case 'U': return plain ? UNTIL : RELEASE;
                case 'W': return plain ? UNLESS : FREED;
                case 'G': case 'R': return plain ? RELEASE : UNTIL;
                default: return plain ? FALSE : TRUE;
            }
        }

        private void markLive(int whole) {
            int live = 1 << whole;
            for (int i = whole; i >= 0; i--) {
                if ((live >> i & 1) != 0) {
                    if (form[i] == LITERAL) {
                        used |= 1 << left[i];
                    } else {
                        live |= left[i] >= 0 ? 1 << left[i] : 0;
                        live |= right[i] >= 0 ? 1 << right[i] : 0;
                    }
                    promises |= form[i] == UNTIL || form[i] == FREED ? 1 << i : 0;
                }
            }
        }

        private void writeClauses(int letter, int element) {
            int row = letter * MOST + element;
            int first = letter * MOST + left[element];
            int second = letter * MOST + right[element];
            int self = 1 << element;
            clauseCount[row] = 0;
            switch (form[element]) {
                case TRUE:
                    addClause(row, 0);
                    break;
                case LITERAL:
                    if ((letter >> left[element] & 1) == right[element]) {
                        addClause(row, 0);
                    }
                    break;
                case AND:
                    addBoth(row, first, second);
                    break;
                case OR:
                    addWith(row, first, 0);
                    addWith(row, second, 0);
                    break;
                case NEXT:
                    addClause(row, 1 << right[element]);
                    break;
                case UNTIL: case UNLESS:
                    addWith(row, second, 0);
                    if (left[element] == NONE) {
                        addClause(row, self);
                    } else {
                        addWith(row, first, self);
                    }
                    break;
                case RELEASE: case FREED:
                    addWith(row, second, self);
                    if (left[element] != NONE) {
                        addBoth(row, first, second);
                    }
                    break;
                default:
                    break;
            }
        }

        private void addWith(int row, int from, int more) {
            for (int i = 0; i < clausesOf(from); i++) {
                addClause(row, clause(from, i) | more);
            }
        }

        private void addBoth(int row, int one, int other) {
            for (int i = 0; i < clausesOf(one); i++) {
                addWith(row, other, clause(one, i));
            }
        }

        int clausesOf(int row) {
            return row >= 0 && row < clauseCount.length ? clauseCount[row] : 0;
        }

        int clause(int row, int index) {
            int at = row * MOST_CLAUSES + index;
            return at >= 0 && at < clauses.length ? clauses[at] : 0;
        }

        /** Keeps only clauses of which none is in another one: more to hold is never easier. */
        private void addClause(int row, int set) {
            int base = row * MOST_CLAUSES;
            int kept = 0;
            for (int i = 0; i < clauseCount[row]; i++) {
                int other = clauses[base + i];
                if ((other & set) == other) {
                    return;
                }
                if ((other & set) != set) {
                    clauses[base + kept] = other;
                    kept++;
                }
            }
            if (kept < MOST_CLAUSES) {
                clauses[base + kept] = set;
                kept++;
            }
            clauseCount[row] = kept;
        }

        /** Which promises, by their order, a step into a set keeps or need not keep. */
        int marksOf(int letter, int set) {
            int marks = 0;
            int bit = 1;
            for (int element = 0; element < count; element++) {
                if ((promises >> element & 1) != 0) {
                    if ((set >> element & 1) == 0 || isKept(letter, element, set)) {
                        marks |= bit;
                    }
                    bit <<= 1;
                }
            }
            return marks;
        }

        private boolean isKept(int letter, int element, int set) {
            int row = letter * MOST + element;
            for (int i = 0; i < clausesOf(row); i++) {
                int clause = clause(row, i);
                if ((clause >> element & 1) == 0 && (clause & set) == clause) {
                    return true;
                }
            }
            return false;
        }
    }

    /** Makes automata: a state is a set of elements that hold from a place on; like states are one. */
    private static final class AutomatonMaker {
        static final int SETS = 1 << Elements.MOST;

        final Alphabet alphabet;
        final Elements elements;
        final Rows raw = new Rows();
        final Rows merged = new Rows();
        final int[] setOf = new int[SETS];
        final int[] stateOf = new int[SETS];
        final int[] seen = new int[SETS];
        final int[] unions = new int[SETS];
        final int[] widened = new int[SETS];
        final int[] classOf = new int[SETS];
        final int[] newClassOf = new int[SETS];
        final int[] firstOf = new int[SETS];
        int states;
        int round;

        AutomatonMaker(Formulas formulas, Alphabet alphabet) {
            this.alphabet = alphabet;
            elements = new Elements(formulas, alphabet);
        }

        /** Makes the automaton of the elements that were gathered, from the state of the whole one on. */
        Automaton make(int whole) {
            for (int set = 0; set < SETS; set++) {
                stateOf[set] = -1;
            }
            states = 0;
            stateFor(whole >= 0 ? 1 << whole : 0);
            raw.clear();
            for (int state = 0; state < states; state++) {
                for (int letter = 0; letter < alphabet.letters; letter++) {
                    if ((letter & elements.used) == letter) {
                        writeRow(setOf[state], letter);
                    }
                    raw.endRow();
                }
            }
            return pick(merge());
        }

        private int stateFor(int set) {
            int known = stateOf[set & SETS - 1];
            if (known >= 0 || states >= SETS) {
                return known;
            }
            stateOf[set & SETS - 1] = states;
            setOf[states] = set & SETS - 1;
            states++;
            return states - 1;
        }

        private void writeRow(int set, int letter) {
            int many = 1;
            unions[0] = 0;
            for (int element = 0; element < elements.count; element++) {
                if ((set >> element & 1) != 0) {
                    many = widen(many, letter * Elements.MOST + element);
                }
            }
            for (int i = 0; i < many; i++) {
                widened[i] = elements.marksOf(letter, unions[i]);
            }
            for (int i = 0; i < many; i++) {
                if (!isWorse(i, many)) {
                    raw.add(stateFor(unions[i]) | widened[i] << Automaton.TARGET_BITS);
                }
            }
        }

        /** Joins each union so far with each clause of a row. */
        private int widen(int many, int row) {
            round++;
            int wider = 0;
            for (int i = 0; i < many; i++) {
                for (int k = 0; k < elements.clausesOf(row); k++) {
                    int union = (unions[i] | elements.clause(row, k)) & SETS - 1;
                    if (seen[union] != round && wider < SETS) {
                        seen[union] = round;
                        widened[wider] = union;
                        wider++;
                    }
                }
            }
            System.arraycopy(widened, 0, unions, 0, wider);
            return wider;
        }

        /** Whether another union asks for less and keeps the same promises. */
        private boolean isWorse(int one, int many) {
            for (int i = 0; i < many; i++) {
                boolean less = unions[i] != unions[one] && (unions[i] & unions[one]) == unions[i];
                if (less && (widened[i] & widened[one]) == widened[one]) {
                    return true;
                }
            }
            return false;
        }

        /** Splits the states into classes until states of one class have the same edges to classes. */
        private int merge() {
            for (int state = 0; state < states; state++) {
                classOf[state] = 0;
            }
            int classes = 1;
            for (int i = 0; i < SETS; i++) {
                writeMerged();
                int now = split();
                if (now == classes) {
                    break;
                }
                classes = now;
            }
            return classes;
        }

        private void writeMerged() {
            merged.clear();
            for (int row = 0; row < raw.rows; row++) {
                for (int i = raw.startOf(row); i < raw.startOf(row + 1); i++) {
                    int edge = raw.at(i);
                    int target = edge & Automaton.TARGETS;
                    merged.add(edge - target | classOf[target]);
                }
                merged.endRow();
            }
        }

        private int split() {
            int many = alphabet.letters;
            int classes = 0;
            for (int state = 0; state < states; state++) {
                int same = -1;
                for (int c = 0; c < classes && same < 0; c++) {
                    boolean together = classOf[firstOf[c]] == classOf[state];
                    if (together && merged.sameRows(firstOf[c] * many, state * many, many)) {
                        same = c;
                    }
                }
                if (same < 0) {
                    firstOf[classes] = state;
                    same = classes;
                    classes++;
                }
                newClassOf[state] = same;
            }
            System.arraycopy(newClassOf, 0, classOf, 0, states);
            return classes;
        }

        private Automaton pick(int classes) {
            int many = alphabet.letters;
            int total = 0;
            for (int c = 0; c < classes; c++) {
                total += merged.startOf((firstOf[c] + 1) * many) - merged.startOf(firstOf[c] * many);
            }
            int[] start = new int[classes * many + 1];
            int[] edges = new int[Math.max(total, 0)];
            int at = 0;
            for (int c = 0; c < classes; c++) {
                for (int letter = 0; letter < many; letter++) {
                    int row = firstOf[c] * many + letter;
                    for (int i = merged.startOf(row); i < merged.startOf(row + 1) && at < total; i++) {
                        edges[at] = merged.at(i);
                        at++;
                    }
                    start[c * many + letter + 1] = at;
                }
            }
            return new Automaton(Integer.bitCount(elements.promises), many, elements.used, start, edges);
        }
    }

    /** A controller or an environment, whole or in part; a step that it does not have goes to NOWHERE. */
    private static final class Machine {
        static final int MOST_STEPS = 16;
        static final int MOST_DIGITS = 16;
        static final int NOWHERE = -1;

        final Alphabet alphabet;
        boolean environment;
        int states;
        /** How many letters it may be given in each state. */
        int choices;
        /** How many digits a state has in the rows: an environment's input letter stands ahead of its steps. */
        int rowLength;
        /** For each state and letter given, the letter of the word that comes of it, and the next state. */
        final int[] whole = new int[MOST_STEPS];
        final int[] next = new int[MOST_STEPS];
        final int[] input = new int[MOST_STEPS];
        final int[] firstAt = new int[MOST_STEPS];

        Machine(Alphabet alphabet) {
            this.alphabet = alphabet;
        }

        void beEmpty(boolean isEnvironment, int size) {
            environment = isEnvironment;
            states = size;
            choices = isEnvironment ? alphabet.outputLetters : alphabet.inputLetters;
            rowLength = isEnvironment ? choices + 1 : choices;
            for (int i = 0; i < MOST_STEPS; i++) {
                next[i] = NOWHERE;
            }
        }

        /** Makes it the machine of one state that does all words. */
        void beFree() {
            environment = false;
            states = 1;
            choices = alphabet.letters;
            rowLength = choices;
            for (int i = 0; i < MOST_STEPS; i++) {
                whole[i] = i;
                next[i] = 0;
            }
        }

        void copy(Machine other) {
            environment = other.environment;
            states = other.states;
            choices = other.choices;
            rowLength = other.rowLength;
            System.arraycopy(other.whole, 0, whole, 0, MOST_STEPS);
            System.arraycopy(other.next, 0, next, 0, MOST_STEPS);
        }

        /** How many numbers its rows have, if a controller's output letter and next state count as one. */
        int digits() {
            return states * rowLength;
        }

        int baseOf(int digit) {
            if (!environment) {
                return alphabet.outputLetters * states;
            }
            return columnOf(digit) == 0 ? alphabet.inputLetters : states;
        }

        private int rowOf(int digit) {
            return rowLength > 0 ? digit / rowLength : 0;
        }

        private int columnOf(int digit) {
            return rowLength > 0 ? digit % rowLength : 0;
        }

        /** Puts a digit of the rows, and answers whether it has one step more by it. */
        boolean put(int digit, int value) {
            int row = rowOf(digit);
            int column = columnOf(digit);
            if (!environment) {
                int answer = states > 0 ? value / states : 0;
                putStep(digit, column | answer << alphabet.inputs, value - answer * states);
                return true;
            }
            if (column == 0) {
                if (row >= 0 && row < input.length) {
                    input[row] = value;
                }
                return false;
            }
            int given = row >= 0 && row < input.length ? input[row] : 0;
            putStep(row * choices + column - 1, given | column - 1 << alphabet.inputs, value);
            return true;
        }

        void takeAway(int digit) {
            int column = columnOf(digit);
            if (!environment) {
                putStep(digit, 0, NOWHERE);
            } else if (column > 0) {
                putStep(rowOf(digit) * choices + column - 1, 0, NOWHERE);
            }
        }

        private void putStep(int index, int letter, int target) {
            if (index >= 0 && index < MOST_STEPS) {
                whole[index] = letter;
                next[index] = target;
            }
        }

        private boolean hasStep(int state, int letter) {
            return state >= 0 && state < states && letter >= 0 && letter < choices
                && state * choices + letter < MOST_STEPS;
        }

        int target(int state, int letter) {
            return hasStep(state, letter) ? next[state * choices + letter] : NOWHERE;
        }

        int wholeLetter(int state, int letter) {
            return hasStep(state, letter) ? whole[state * choices + letter] : 0;
        }

        int answer(int state, int letter) {
            int both = wholeLetter(state, letter);
            return environment ? both & alphabet.inputLetters - 1 : both >> alphabet.inputs;
        }

        /**
         * Makes the word of a run by letters, two bits each, of which those from the place back on repeat,
         * until a state comes again ahead of the same letter.
         */
        int play(int letters, int many, int back, Word word) {
            word.empty();
            int been = 0;
            int state = 0;
            int turn = 0;
            for (int i = 0; i < Word.LONGEST; i++) {
                int index = turn * 2 + (state & 1);
                if (index >= firstAt.length) {
                    break;
                }
                if ((been >> index & 1) != 0) {
                    word.loop = firstAt[index];
                    break;
                }
                been |= 1 << index;
                firstAt[index] = i;
                int letter = letters >> 2 * turn & 3;
                word.add(wholeLetter(state, letter));
                state = target(state, letter);
                turn = turn + 1 < many ? turn + 1 : back;
            }
            return word.length;
        }
    }

    /**
     * Looks for a word of a machine that some automata all take: a loop, reached from the beginning of all,
     * that has each mark of each automaton. The ways are gone through in depth; loops that hang together
     * are one group, whose first node is its root (Couvreur's algorithm).
     */
    private static final class Product {
        static final int MOST_PARTS = 4;
        static final int KEY_BITS = 7;
        static final int KEYS = (1 << KEY_BITS) - 1;
        static final int BRANCH_BITS = 20;
        static final int BRANCHES = (1 << BRANCH_BITS) - 1;
        static final int GONE = -1;
        static final int MIXER = 0x9E3779B1;
        /** No search has more: an automaton has at most 27 states, a machine 2, and 2 * 27 to the power of 4 is less. */
        static final int MOST_NODES = 1 << 21;
        static final int MOST_TURNS = 1 << 30;
        static final int MOST_FLOOR = 1 << 30;

        final Automaton[] part = new Automaton[MOST_PARTS];
        final int[] markShift = new int[MOST_PARTS];
        int parts;
        int allMarks;
        int markBits;
        /** Numbers of nodes above a floor, which rises with each search, so that old ones are void. */
        int[] slots = new int[256];
        /** For each node the states of the machine and the automata. */
        int[] key = new int[128];
        /** For each node how far its edges have been looked at, GONE once its group is done with. */
        int[] turn = new int[128];
        int[] path = new int[128];
        int[] alive = new int[128];
        int[] root = new int[128];
        int[] rootMarks = new int[128];
        int[] entryMarks = new int[128];
        int floor;
        int count;
        int depth;
        int living;
        int roots;
        int edgeKey;
        int edgeMarks;

        void clear() {
            parts = 0;
            allMarks = 0;
            markBits = 0;
        }

        void add(Automaton automaton) {
            for (int i = 0; i < parts; i++) {
                if (part[i] == automaton) {
                    return;
                }
            }
            if (parts < MOST_PARTS) {
                part[parts] = automaton;
                markShift[parts] = markBits;
                allMarks |= (1 << automaton.marks) - 1 << markBits;
                markBits += automaton.marks;
                parts++;
            }
        }

        boolean hasWord(Machine machine) {
            forgetNodes();
            enter(0, 0);
            for (int i = 0; i < MOST_TURNS && depth > 0; i++) {
                int node = path[depth - 1];
                if (!findEdge(machine, node)) {
                    leave(node);
                } else {
                    int target = nodeOf(edgeKey);
                    if (target < 0) {
                        if (count >= key.length) {
                            grow();
                        }
                        enter(edgeKey, edgeMarks);
                    } else if (turn[target] != GONE && closesLoop(target, edgeMarks)) {
                        return true;
                    }
                }
            }
            return false;
        }

        private void forgetNodes() {
            floor += count;
            if (floor >= MOST_FLOOR) {
                Arrays.fill(slots, 0);
                floor = 0;
            }
            count = 0;
            depth = 0;
            living = 0;
            roots = 0;
        }

        private int nodeOf(int wanted) {
            int mask = slots.length - 1;
            int at = wanted * MIXER;
            at = (at ^ at >>> 15) & mask;
            for (int i = 0; i <= mask; i++) {
                int node = slots[at] - floor - 1;
                if (node < 0 || node >= count) {
                    return -1;
                }
                if (key[node] == wanted) {
                    return node;
                }
                at = at + 1 & mask;
            }
            return -1;
        }

        private void putSlot(int node) {
            int mask = slots.length - 1;
            int at = key[node] * MIXER;
            at = (at ^ at >>> 15) & mask;
            for (int i = 0; i <= mask && slots[at] > floor; i++) {
                at = at + 1 & mask;
            }
            slots[at] = floor + node + 1;
        }

        private void enter(int newKey, int marks) {
            if (count >= key.length) {
                return;
            }
            int node = count;
            count++;
            key[node] = newKey;
            turn[node] = 0;
            putSlot(node);
            path[depth] = node;
            depth++;
            alive[living] = node;
            living++;
            root[roots] = node;
            rootMarks[roots] = 0;
            entryMarks[roots] = marks;
            roots++;
        }

        private void grow() {
            int size = 2 * key.length;
            if (size > MOST_NODES) {
                return;
            }
            key = Arrays.copyOf(key, size);
            turn = Arrays.copyOf(turn, size);
            path = Arrays.copyOf(path, size);
            alive = Arrays.copyOf(alive, size);
            root = Arrays.copyOf(root, size);
            rootMarks = Arrays.copyOf(rootMarks, size);
            entryMarks = Arrays.copyOf(entryMarks, size);
            slots = new int[2 * size];
            floor = 0;
            for (int node = 0; node < count; node++) {
                putSlot(node);
            }
        }

        private void leave(int node) {
            depth--;
            if (roots > 0 && root[roots - 1] == node) {
                roots--;
                boolean more = true;
                while (more && living > 0) {
                    living--;
                    turn[alive[living]] = GONE;
                    more = alive[living] != node;
                }
            }
        }

        /** Makes one group of all groups from that of a node on, and answers whether it has all marks. */
        private boolean closesLoop(int node, int marks) {
            int sum = marks;
            while (roots > 1 && root[roots - 1] > node) {
                roots--;
                sum |= rootMarks[roots] | entryMarks[roots];
            }
            if (roots > 0) {
                rootMarks[roots - 1] |= sum;
                sum = rootMarks[roots - 1];
            }
            return sum == allMarks;
        }

        /** Finds the next edge of a node: its turn counts the letters and, for each, the choices of edges. */
        private boolean findEdge(Machine machine, int node) {
            int from = key[node];
            int letter = turn[node] >> BRANCH_BITS;
            while (letter < machine.choices) {
                int index = (from & 1) * machine.choices + letter;
                int target = index < Machine.MOST_STEPS ? machine.next[index] : Machine.NOWHERE;
                if (target >= 0 && takeBranch(from, target, machine.whole[index], turn[node] & BRANCHES)) {
                    turn[node]++;
                    return true;
                }
                letter++;
                turn[node] = letter << BRANCH_BITS;
            }
            return false;
        }

        /** Reads a letter by one choice of edges, the automata's choices being the digits of the branch. */
        private boolean takeBranch(int from, int target, int letter, int branch) {
            int rest = branch;
            int keyLeft = from >> 1;
            int newKey = target;
            int marks = 0;
            for (int i = 0; i < parts; i++) {
                Automaton automaton = part[i];
                int row = (keyLeft & KEYS) * automaton.letters + (letter & automaton.used);
                if (row < 0 || row + 1 >= automaton.start.length) {
                    return false;
                }
                int index = automaton.start[row];
                int many = automaton.start[row + 1] - index;
                if (many <= 0) {
                    return false;
                }
                if (many > 1) {
                    index += rest % many;
                    rest /= many;
                }
                if (index < 0 || index >= automaton.edges.length) {
                    return false;
                }
                int edge = automaton.edges[index];
                newKey |= (edge & Automaton.TARGETS) << 1 + KEY_BITS * i;
                marks |= edge >> Automaton.TARGET_BITS << markShift[i];
                keyLeft >>= KEY_BITS;
            }
            edgeKey = newKey;
            edgeMarks = marks;
            return rest == 0;
        }
    }

    /** The assumptions and wishes, and what is found by them. */
    private static final class Forge {
        static final int MOST_ASSUMED = 2;
        static final int MOST_WISHED = 4;
        static final int MOST_TRIES = 1000000;
        static final int PLAIN = 0;
        static final int CONTRARY = 1;
        static final char CONTROLLER = 'c';
        static final char ENVIRONMENT = 'e';
        static final char NOTHING = '?';

        final Formulas formulas;
        final Alphabet alphabet;
        final AutomatonMaker maker;
        final Product product = new Product();
        final Automaton[] automata = new Automaton[2 * Formulas.MOST];
        /** One more than may be made, for the assumption that is only asked about. */
        final int[] assumption = new int[MOST_ASSUMED + 1];
        final int[] wishOf = new int[MOST_WISHED];
        final int[] digit = new int[Machine.MOST_DIGITS];
        final Machine free;
        final Machine trial;
        final Machine found;
        final Word shortWord;
        int assumed;
        int wished;
        char kind;
        boolean known;
        int core;
        boolean coreKnown;
        boolean checked;
        boolean rightOnShortWords;

        Forge(Formulas formulas, Alphabet alphabet) {
            this.formulas = formulas;
            this.alphabet = alphabet;
            maker = new AutomatonMaker(formulas, alphabet);
            free = new Machine(alphabet);
            free.beFree();
            trial = new Machine(alphabet);
            found = new Machine(alphabet);
            shortWord = new Word(formulas, alphabet.inputs);
            kind = NOTHING;
        }

        int addAssumption(int formula) {
            forget();
            if (assumed < MOST_ASSUMED) {
                makeAutomaton(formula, PLAIN);
                makeAutomaton(formula, CONTRARY);
                assumption[assumed] = formula;
                assumed++;
            }
            return assumed;
        }

        int addWish(int formula) {
            forget();
            if (wished < MOST_WISHED) {
                makeAutomaton(formula, PLAIN);
                makeAutomaton(formula, CONTRARY);
                wishOf[wished] = formula;
                wished++;
            }
            return wished;
        }

        int dropAll() {
            forget();
            int before = assumed + wished;
            assumed = 0;
            wished = 0;
            return before;
        }

        private void forget() {
            known = false;
            coreKnown = false;
            checked = false;
        }

        boolean canHold(int formula, int side) {
            product.clear();
            makeAutomaton(formula, side);
            addPart(formula, side);
            return product.hasWord(free);
        }

        boolean canHoldWithout(int formula, int without) {
            product.clear();
            makeAutomaton(formula, PLAIN);
            makeAutomaton(without, CONTRARY);
            addPart(formula, PLAIN);
            addPart(without, CONTRARY);
            return product.hasWord(free);
        }

        private void makeAutomaton(int formula, int side) {
            if (formulas.has(formula) && automata[2 * formula + side] == null) {
                automata[2 * formula + side] = maker.make(maker.elements.gather(formula, side));
            }
        }

        private void addPart(int formula, int side) {
            Automaton automaton = formulas.has(formula) ? automata[2 * formula + side] : null;
            if (automaton != null) {
                product.add(automaton);
            }
        }

        char kindFound() {
            if (!known) {
                kind = judge(assumed);
                if (kind != NOTHING) {
                    found.copy(trial);
                }
                known = true;
            }
            return kind;
        }

        char kindWith(int formula) {
            if (known && kind == CONTROLLER) {
                return CONTROLLER;
            }
            makeAutomaton(formula, PLAIN);
            makeAutomaton(formula, CONTRARY);
            assumption[assumed] = formula;
            return judge(assumed + 1);
        }

        private int allWishes() {
            return (1 << wished) - 1;
        }

        private char judge(int assumptions) {
            int wishes = allWishes();
            for (int size = 1; size <= 2; size++) {
                if ((size == 1 || alphabet.inputs == 1) && findMachine(false, size, assumptions, wishes)) {
                    return CONTROLLER;
                }
                if (findMachine(true, size, assumptions, wishes)) {
                    return ENVIRONMENT;
                }
            }
            return NOTHING;
        }

        /**
         * Tries the machines of a size by their rows, and leaves the first right one as the trial. A machine
         * that is broken by the steps that it has so far is not gone on with.
         */
        private boolean findMachine(boolean environment, int size, int assumptions, int wishes) {
            trial.beEmpty(environment, size);
            int digits = trial.digits();
            int at = 0;
            digit[0] = -1;
            for (int i = 0; i < MOST_TRIES && at >= 0 && at < digit.length; i++) {
                digit[at]++;
                if (digit[at] >= trial.baseOf(at)) {
                    trial.takeAway(at);
                    at--;
                } else {
                    boolean more = trial.put(at, digit[at]);
                    boolean broken = more
                        && (environment ? isBeaten(assumptions, wishes) : canFail(assumptions, wishes));
                    at = broken ? at : at + 1;
                    if (at >= digits) {
                        return true;
                    }
                    if (!broken && at < digit.length) {
                        digit[at] = -1;
                    }
                }
            }
            return false;
        }

        /** Whether some word of a controller keeps the assumptions, but not a wish. */
        private boolean canFail(int assumptions, int wishes) {
            for (int i = 0; i < MOST_WISHED; i++) {
                if ((wishes >> i & 1) != 0) {
                    product.clear();
                    for (int k = 0; k < assumptions; k++) {
                        addPart(assumption[k], PLAIN);
                    }
                    addPart(wishOf[i], CONTRARY);
                    if (product.hasWord(trial)) {
                        return true;
                    }
                }
            }
            return false;
        }

        /** Whether some word of an environment is well. */
        private boolean isBeaten(int assumptions, int wishes) {
            for (int k = 0; k < assumptions; k++) {
                product.clear();
                addPart(assumption[k], CONTRARY);
                if (product.hasWord(trial)) {
                    return true;
                }
            }
            product.clear();
            for (int i = 0; i < MOST_WISHED; i++) {
                if ((wishes >> i & 1) != 0) {
                    addPart(wishOf[i], PLAIN);
                }
            }
            return product.hasWord(trial);
        }

        /** The wishes of the core, as bits; to be asked for only if an environment is found. */
        int coreWishes() {
            if (!coreKnown) {
                core = findCore();
                coreKnown = true;
            }
            return core;
        }

        private int findCore() {
            for (int size = 1; size < wished; size++) {
                // Read with the first wish as the highest bit, falling numbers are the order of the sets.
                for (int set = allWishes(); set > 0; set--) {
                    if (Integer.bitCount(set) == size) {
                        int wishes = turned(set);
                        if (findMachine(true, 1, assumed, wishes) || findMachine(true, 2, assumed, wishes)) {
                            return wishes;
                        }
                    }
                }
            }
            return allWishes();
        }

        private int turned(int set) {
            int result = 0;
            for (int i = 0; i < wished; i++) {
                result |= (set >> i & 1) << wished - 1 - i;
            }
            return result;
        }

        /** Whether what is found is right for the words of at most 3 letters of which the last 1 or 2 repeat. */
        boolean isRightOnShortWords() {
            if (!checked) {
                rightOnShortWords = tryShortWords();
                checked = true;
            }
            return rightOnShortWords;
        }

        private boolean tryShortWords() {
            for (int many = 1; many <= 3; many++) {
                for (int repeated = 1; repeated <= 2 && repeated <= many; repeated++) {
                    for (int letters = 0; letters < 1 << 2 * many; letters++) {
                        if (isOfLetters(letters, many)) {
                            found.play(letters, many, many - repeated, shortWord);
                            if (isWell() != (kind == CONTROLLER)) {
                                return false;
                            }
                        }
                    }
                }
            }
            return true;
        }

        private boolean isOfLetters(int letters, int many) {
            for (int i = 0; i < many; i++) {
                if ((letters >> 2 * i & 3) >= found.choices) {
                    return false;
                }
            }
            return true;
        }

        private boolean isWell() {
            for (int k = 0; k < assumed; k++) {
                if ((shortWord.placesOf(assumption[k]) & 1) == 0) {
                    return true;
                }
            }
            for (int i = 0; i < wished; i++) {
                if ((shortWord.placesOf(wishOf[i]) & 1) == 0) {
                    return false;
                }
            }
            return true;
        }
    }

    /** A game with parities; sets of nodes are bits. */
    private static final class Game {
        static final int MOST = 12;
        static final int PRIORITIES = 8;
        static final int TOP = 1 << 16;
        static final int MOST_ROUNDS = 1000000;

        final int[] owner = new int[MOST];
        final int[] priority = new int[MOST];
        final int[] edges = new int[MOST];
        /** The edges with which the game is being solved. */
        final int[] ways = new int[MOST];
        final int[] moves = new int[MOST];
        final int[] measure = new int[MOST];
        int count;
        int wonByEven;
        boolean solved;
        int wonAnew;
        boolean solvedAnew;
        boolean movesKnown;

        int add(int newOwner, int newPriority) {
            forget();
            int node = count;
            if (node < MOST) {
                owner[node] = newOwner;
                priority[node] = newPriority;
                edges[node] = 0;
                count++;
            }
            return node;
        }

        boolean putEdge(int from, int to, boolean is) {
            forget();
            boolean was = (edges[from] >> to & 1) != 0;
            edges[from] = is ? edges[from] | 1 << to : edges[from] & ~(1 << to);
            return was;
        }

        int putPriority(int node, int newPriority) {
            forget();
            int before = priority[node];
            priority[node] = newPriority;
            return before;
        }

        int empty() {
            forget();
            int before = count;
            count = 0;
            return before;
        }

        private void forget() {
            solved = false;
            solvedAnew = false;
            movesKnown = false;
        }

        boolean hasAllEdges() {
            for (int i = 0; i < count; i++) {
                if (edges[i] == 0) {
                    return false;
                }
            }
            return true;
        }

        private int allNodes() {
            return (1 << count) - 1;
        }

        int wonNodes(int player) {
            if (!solved) {
                System.arraycopy(edges, 0, ways, 0, MOST);
                wonByEven = solve(this, allNodes(), MOST);
                solved = true;
            }
            return player == 0 ? wonByEven : allNodes() & ~wonByEven;
        }

        int playerWinning(int node) {
            return (wonNodes(0) >> node & 1) != 0 ? 0 : 1;
        }

        boolean isWonByOwner(int node) {
            return playerWinning(node) == owner[node];
        }

        /** The nodes of a part of a game that the player 0 wins in it (Zielonka's algorithm). */
        private static int solve(Game game, int nodes, int depth) {
            if (nodes == 0 || depth < 0) {
                return 0;
            }
            int those = game.greatestOf(nodes);
            int greatest = game.priority[Math.min(lowest(those), MOST - 1)];
            int player = greatest & 1;
            int rest = nodes & ~game.drawn(nodes, those, player);
            int even = solve(game, rest, depth - 1);
            int lost = player == 0 ? rest & ~even : even;
            if (lost == 0) {
                return player == 0 ? nodes : 0;
            }
            // From here the other player comes to what he has won for sure; the rest is looked at without it.
            int taken = game.drawn(nodes, lost, 1 - player);
            even = solve(game, nodes & ~taken, depth - 1);
            return player == 0 ? even : even | taken;
        }

        /** The nodes of a set that have its greatest priority. */
        private int greatestOf(int nodes) {
            int greatest = 0;
            int those = 0;
            for (int i = 0; i < count; i++) {
                if ((nodes >> i & 1) != 0 && priority[i] >= greatest) {
                    those = priority[i] > greatest ? 0 : those;
                    those |= 1 << i;
                    greatest = priority[i];
                }
            }
            return those;
        }

        /** The nodes from which a player can bring the game to a set. */
        private int drawn(int nodes, int set, int player) {
            int result = set;
            for (int round = 0; round < MOST; round++) {
                int before = result;
                for (int i = 0; i < count; i++) {
                    if (((nodes & ~result) >> i & 1) != 0) {
                        int inside = ways[i] & nodes;
                        boolean comes = owner[i] == player ? (inside & result) != 0 : (inside & ~result) == 0;
                        result |= comes ? 1 << i : 0;
                    }
                }
                if (result == before) {
                    break;
                }
            }
            return result;
        }

        int stepFrom(int node) {
            if (!movesKnown) {
                findMoves(wonNodes(0), 0);
                findMoves(wonNodes(1), 1);
                movesKnown = true;
            }
            return isWonByOwner(node) ? moves[node] : lowest(edges[node]);
        }

        private void findMoves(int region, int player) {
            System.arraycopy(edges, 0, ways, 0, MOST);
            for (int node = 0; node < count; node++) {
                if ((region >> node & 1) != 0 && owner[node] == player) {
                    moves[node] = firstGood(node, region, player);
                    ways[node] = 1 << moves[node];
                }
            }
        }

        /** The lowest node with which the player still wins a region; going out of it is never good. */
        private int firstGood(int node, int region, int player) {
            int all = ways[node] & region;
            for (int to = 0; to < count; to++) {
                if ((all >> to & 1) != 0) {
                    ways[node] = 1 << to;
                    int even = solve(this, region, MOST);
                    if ((player == 0 ? even : region & ~even) == region) {
                        return to;
                    }
                }
            }
            return lowest(edges[node]);
        }

        int greatestForEver(int node) {
            int at = node;
            int greatest = 0;
            for (int i = 0; i < 2 * MOST && at < count; i++) {
                // As many steps as there may be nodes lead into the loop, as many more go round it.
                if (i >= MOST) {
                    greatest = Math.max(greatest, priority[at]);
                }
                at = stepFrom(at);
            }
            return greatest;
        }

        /**
         * The nodes that the player 0 wins, by measures: each counts, four bits a number, how often the odd
         * priorities may come ahead of greater ones, the greatest priority in the highest bits. They grow,
         * as little as they can, until no node's is too small; a node at the top is lost.
         */
        int wonByMeasures() {
            if (!solvedAnew) {
                Arrays.fill(measure, 0);
                boolean grown = true;
                for (int round = 0; round < MOST_ROUNDS && grown; round++) {
                    grown = growMeasures();
                }
                wonAnew = 0;
                for (int i = 0; i < count; i++) {
                    wonAnew |= measure[i] < TOP ? 1 << i : 0;
                }
                solvedAnew = true;
            }
            return wonAnew;
        }

        private boolean growMeasures() {
            boolean grown = false;
            for (int i = 0; i < count; i++) {
                int due = owner[i] == 0 ? TOP : 0;
                for (int to = 0; to < count; to++) {
                    if ((edges[i] >> to & 1) != 0) {
                        int along = leastAlong(priority[i], measure[to]);
                        due = owner[i] == 0 ? Math.min(due, along) : Math.max(due, along);
                    }
                }
                if (due > measure[i]) {
                    measure[i] = due;
                    grown = true;
                }
            }
            return grown;
        }

        /** The least measure that a node of a priority may have ahead of a node with a measure. */
        private int leastAlong(int from, int measureThere) {
            if (measureThere >= TOP) {
                return TOP;
            }
            int low = 4 * (from >> 1);
            int kept = measureThere >> low << low;
            if ((from & 1) == 0) {
                return kept;
            }
            for (int odd = from; odd < PRIORITIES; odd += 2) {
                int shift = 4 * (odd >> 1);
                if ((kept >> shift & 15) < nodesOf(odd)) {
                    return kept + (1 << shift);
                }
                kept &= ~(15 << shift);
            }
            return TOP;
        }

        private int nodesOf(int wanted) {
            int sum = 0;
            for (int i = 0; i < count; i++) {
                sum += priority[i] == wanted ? 1 : 0;
            }
            return sum;
        }

        long weightedSum() {
            long sum = 0;
            for (int i = 0; i < count; i++) {
                long weight = 1;
                for (int k = 0; k < i % 8; k++) {
                    weight *= 100;
                }
                sum += (priority[i] * 10 + playerWinning(i)) * weight;
            }
            return sum;
        }
    }
}
