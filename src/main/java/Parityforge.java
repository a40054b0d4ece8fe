import java.util.Arrays;
import java.util.NoSuchElementException;

/**
 * A maker of controllers from wishes over time: formulas, words that go on for ever, the smallest
 * machine that keeps wishes or breaks them, runs of it, and games with parities.
 */
public final class Parityforge {
    private final Alphabet alphabet;
    private final Formulas formulas;
    private final Word word;
    private final Forge forge;
    private final Game game;
    private boolean running;
    private int runState;
    private int runSteps;

    public Parityforge(int inputs, int outputs) {
        alphabet = new Alphabet(nearest(inputs), nearest(outputs));
        formulas = new Formulas();
        word = new Word(formulas, alphabet.inputs);
        forge = new Forge(formulas, alphabet);
        game = new Game();
    }

    private static int nearest(int number) {
        return number < 1 ? 1 : number > 2 ? 2 : number;
    }

    // ---- formulas and words

    public int formula(char kind, int a, int b) throws IllegalArgumentException, IndexOutOfBoundsException,
            UnsupportedOperationException, IllegalStateException {
        int parts = Formulas.partsOf(kind);
        if (parts < 0 || kind == 'i' && !inRange(a, alphabet.inputs) || kind == 'o' && !inRange(a, alphabet.outputs)) {
            throw new IllegalArgumentException();
        }
        if (parts >= 1 && !formulas.has(a) || parts == 2 && !formulas.has(b)) {
            throw new IndexOutOfBoundsException();
        }
        if (formulas.sizeWith(kind, a, b) > Formulas.LARGEST) {
            throw new UnsupportedOperationException();
        }
        if (formulas.count >= Formulas.MOST) {
            throw new IllegalStateException();
        }
        return formulas.add(kind, a, b);
    }

    public int size(int formula) throws IndexOutOfBoundsException {
        checkFormula(formula);
        return formulas.size[formula];
    }

    public boolean canBe(int formula) throws IndexOutOfBoundsException {
        checkFormula(formula);
        return forge.canHold(formula, Forge.PLAIN);
    }

    public boolean isValid(int formula) throws IndexOutOfBoundsException {
        checkFormula(formula);
        return !forge.canHold(formula, Forge.CONTRARY);
    }

    public boolean follows(int from, int formula) throws IndexOutOfBoundsException {
        checkFormula(from);
        checkFormula(formula);
        return !forge.canHoldWithout(from, formula);
    }

    public int letter(int letter) throws IllegalArgumentException, IllegalStateException {
        if (!inRange(letter, alphabet.letters)) {
            throw new IllegalArgumentException();
        }
        if (word.length >= Word.LONGEST) {
            throw new IllegalStateException();
        }
        word.add(letter);
        return word.length;
    }

    public int setLoop(int place) throws IndexOutOfBoundsException {
        if (!inRange(place, word.length)) {
            throw new IndexOutOfBoundsException();
        }
        int before = word.loop;
        word.loop = place;
        return before;
    }

    public int clearWord() {
        int before = word.length;
        word.empty();
        return before;
    }

    public boolean holds(int formula, int place) throws IndexOutOfBoundsException, IllegalArgumentException,
            IllegalStateException {
        checkFormula(formula);
        if (!inRange(place, 100)) {
            throw new IllegalArgumentException();
        }
        if (word.length == 0) {
            throw new IllegalStateException();
        }
        return word.isTrueAt(formula, place);
    }

    // ---- wishes and what is found

    public int assume(int formula) throws IndexOutOfBoundsException, IllegalStateException {
        checkFormula(formula);
        if (forge.assumed >= Forge.MOST_ASSUMED) {
            throw new IllegalStateException();
        }
        running = false;
        return forge.addAssumption(formula);
    }

    public int wish(int formula) throws IndexOutOfBoundsException, IllegalStateException {
        checkFormula(formula);
        if (forge.wished >= Forge.MOST_WISHED) {
            throw new IllegalStateException();
        }
        running = false;
        return forge.addWish(formula);
    }

    public int drop() {
        running = false;
        return forge.dropAll();
    }

    public char verdict() {
        return forge.kindFound();
    }

    public int states() {
        return forge.kindFound() == Forge.NOTHING ? 0 : forge.found.states;
    }

    public int given(int state, int letter) throws UnsupportedOperationException, IndexOutOfBoundsException {
        char kind = forge.kindFound();
        if (kind == Forge.NOTHING) {
            throw new UnsupportedOperationException();
        }
        Machine found = forge.found;
        boolean meansLetter = kind == Forge.CONTROLLER;
        if (!inRange(state, found.states) || meansLetter && !inRange(letter, found.choices)) {
            throw new IndexOutOfBoundsException();
        }
        return found.answer(state, meansLetter ? letter : 0);
    }

    public int next(int state, int letter) throws UnsupportedOperationException, IndexOutOfBoundsException {
        if (forge.kindFound() == Forge.NOTHING) {
            throw new UnsupportedOperationException();
        }
        Machine found = forge.found;
        if (!inRange(state, found.states) || !inRange(letter, found.choices)) {
            throw new IndexOutOfBoundsException();
        }
        return found.target(state, letter);
    }

    public int core() throws UnsupportedOperationException {
        if (forge.kindFound() != Forge.ENVIRONMENT) {
            throw new UnsupportedOperationException();
        }
        return Integer.bitCount(forge.coreWishes());
    }

    public int coreAt(int index) throws UnsupportedOperationException, IndexOutOfBoundsException {
        if (forge.kindFound() != Forge.ENVIRONMENT) {
            throw new UnsupportedOperationException();
        }
        int wishes = forge.coreWishes();
        if (!inRange(index, Integer.bitCount(wishes))) {
            throw new IndexOutOfBoundsException();
        }
        return bitAt(wishes, index);
    }

    public char verdictWith(int formula) throws IndexOutOfBoundsException {
        checkFormula(formula);
        return forge.kindWith(formula);
    }

    // ---- runs

    public int begin() throws UnsupportedOperationException {
        if (forge.kindFound() == Forge.NOTHING) {
            throw new UnsupportedOperationException();
        }
        running = true;
        runState = 0;
        runSteps = 0;
        return forge.found.states;
    }

    public int step(int letter) throws IllegalStateException, IllegalArgumentException {
        checkRun();
        if (!inRange(letter, forge.found.choices)) {
            throw new IllegalArgumentException();
        }
        int answer = forge.found.answer(runState, letter);
        runState = forge.found.target(runState, letter);
        runSteps++;
        return answer;
    }

    public int state() throws IllegalStateException {
        checkRun();
        return runState;
    }

    public int steps() throws IllegalStateException {
        checkRun();
        return runSteps;
    }

    public int replay(int first, int second) throws UnsupportedOperationException, IllegalArgumentException {
        if (forge.kindFound() == Forge.NOTHING) {
            throw new UnsupportedOperationException();
        }
        Machine found = forge.found;
        if (!inRange(first, found.choices) || !inRange(second, found.choices)) {
            throw new IllegalArgumentException();
        }
        return found.play(first | second << 2, 2, 0, word);
    }

    // ---- games

    public int node(int owner, int priority) throws IllegalArgumentException, IllegalStateException {
        if (!inRange(owner, 2) || !inRange(priority, Game.PRIORITIES)) {
            throw new IllegalArgumentException();
        }
        if (game.count >= Game.MOST) {
            throw new IllegalStateException();
        }
        return game.add(owner, priority);
    }

    public boolean edge(int from, int to, boolean is) throws IndexOutOfBoundsException {
        checkNode(from);
        checkNode(to);
        return game.putEdge(from, to, is);
    }

    public int setPriority(int node, int priority) throws IndexOutOfBoundsException, IllegalArgumentException {
        checkNode(node);
        if (!inRange(priority, Game.PRIORITIES)) {
            throw new IllegalArgumentException();
        }
        return game.putPriority(node, priority);
    }

    public int clearGame() {
        return game.empty();
    }

    public int winner(int node) throws IndexOutOfBoundsException, IllegalStateException {
        checkNode(node);
        checkEdges();
        return game.playerWinning(node);
    }

    public int winnerAnew(int node) throws IndexOutOfBoundsException, IllegalStateException {
        checkNode(node);
        checkEdges();
        return (game.wonByMeasures() >> node & 1) != 0 ? 0 : 1;
    }

    public int won(int player) throws IllegalArgumentException, IllegalStateException {
        if (!inRange(player, 2)) {
            throw new IllegalArgumentException();
        }
        checkEdges();
        return Integer.bitCount(game.wonNodes(player));
    }

    public int move(int node) throws IndexOutOfBoundsException, IllegalStateException, NoSuchElementException {
        checkNode(node);
        checkEdges();
        if (!game.isWonByOwner(node)) {
            throw new NoSuchElementException();
        }
        return game.stepFrom(node);
    }

    public int lasting(int node) throws IndexOutOfBoundsException, IllegalStateException {
        checkNode(node);
        checkEdges();
        return game.greatestForEver(node);
    }

    public long sum() throws IllegalStateException {
        checkEdges();
        return game.weightedSum();
    }

    public float wonShare() throws ArithmeticException, IllegalStateException {
        if (game.count == 0) {
            throw new ArithmeticException();
        }
        checkEdges();
        return (float) Integer.bitCount(game.wonNodes(0)) / (float) game.count;
    }

    public double meanSize() throws ArithmeticException {
        if (formulas.count == 0) {
            throw new ArithmeticException();
        }
        return (double) formulas.sizeOfAll() / (double) formulas.count;
    }

    public boolean isTrue() {
        boolean alike = !game.hasAllEdges() || game.wonNodes(0) == game.wonByMeasures();
        boolean nothing = forge.kindFound() == Forge.NOTHING;
        return alike && (nothing || forge.isRightOnShortWords());
    }

    private static boolean inRange(int number, int bound) {
        return number >= 0 && number < bound;
    }

    private void checkFormula(int formula) {
        if (!formulas.has(formula)) {
            throw new IndexOutOfBoundsException();
        }
    }

    private void checkNode(int node) {
        if (!inRange(node, game.count)) {
            throw new IndexOutOfBoundsException();
        }
    }

    private void checkEdges() {
        if (!game.hasAllEdges()) {
            throw new IllegalStateException();
        }
    }

    private void checkRun() {
        if (!running) {
            throw new IllegalStateException();
        }
    }

    /** The place of the bit of a set that has so many lower ones in it. */
    private static int bitAt(int set, int index) {
        int rest = set;
        for (int i = 0; i < index; i++) {
            rest &= rest - 1;
        }
        return lowest(rest);
    }

    /** The lowest number in a set of bits, 32 if it is empty. */
    private static int lowest(int set) {
        return Integer.bitCount((set & -set) - 1);
    }

    /** How many letters there are: the inputs are the low bits of a letter, the outputs the others. */
    private static final class Alphabet {
        static final int MOST_BITS = 4;

        final int inputs;
        final int outputs;
        final int inputLetters;
        final int outputLetters;
        final int letters;

        Alphabet(int inputs, int outputs) {
            this.inputs = inputs;
            this.outputs = outputs;
            inputLetters = 1 << inputs;
            outputLetters = 1 << outputs;
            letters = 1 << inputs + outputs;
        }
    }

    /** The formulas that were made, each of parts with lower numbers. */
    private static final class Formulas {
        static final int MOST = 60;
        static final int LARGEST = 8;

        final char[] kind = new char[MOST];
        final int[] first = new int[MOST];
        final int[] second = new int[MOST];
        final int[] size = new int[MOST];
        /** For each formula the set of the formulas in it, itself too, as bits. */
        final long[] within = new long[MOST];
        int count;

        /** How many formulas a kind is made of, -1 if there is no such kind. */
        static int partsOf(char kind) {
            switch (kind) {
                case 't': case 'f': case 'i': case 'o':
                    return 0;
                case '!': case 'X': case 'F': case 'G':
                    return 1;
                case '&': case '|': case '>': case 'U': case 'W': case 'R':
                    return 2;
                default:
                    return -1;
            }
        }

        boolean has(int formula) {
            return formula >= 0 && formula < count;
        }

        int sizeWith(char kind, int a, int b) {
            int parts = partsOf(kind);
            int sum = 1;
            if (parts >= 1 && has(a)) {
                sum += size[a];
            }
            if (parts == 2 && has(b)) {
                sum += size[b];
            }
            return sum;
        }

        int add(char newKind, int a, int b) {
            int formula = count;
            if (formula >= MOST) {
                return formula;
            }
            int parts = partsOf(newKind);
            kind[formula] = newKind;
            first[formula] = newKind == 't' || newKind == 'f' ? 0 : a;
            second[formula] = parts == 2 ? b : 0;
            size[formula] = sizeWith(newKind, a, b);
            long set = 1L << formula;
            if (parts >= 1 && has(a)) {
                set |= within[a];
            }
            if (parts == 2 && has(b)) {
                set |= within[b];
            }
            within[formula] = set;
            count = formula + 1;
            return formula;
        }

        int sizeOfAll() {
            int sum = 0;
            for (int i = 0; i < count; i++) {
                sum += size[i];
            }
            return sum;
        }
    }

    /** A word that goes on for ever; what formulas are at its places stands in sets of places, as bits. */
    private static final class Word {
        static final int LONGEST = 12;

        final Formulas formulas;
        final int inputs;
        final int[] letters = new int[LONGEST];
        final int[] places = new int[Formulas.MOST];
        int length;
        int loop;

        Word(Formulas formulas, int inputs) {
            this.formulas = formulas;
            this.inputs = inputs;
        }

        void empty() {
            length = 0;
            loop = 0;
        }

        void add(int letter) {
            if (length < LONGEST) {
                letters[length] = letter;
                length++;
            }
        }

        boolean isTrueAt(int formula, int place) {
            int at = place;
            if (at >= length) {
                int round = length - loop;
                at = round > 0 ? loop + (at - loop) % round : 0;
            }
            return (placesOf(formula) >> at & 1) != 0;
        }

        /** The places at which a formula holds; its parts are looked at first, as they have lower numbers. */
        int placesOf(int formula) {
            if (!formulas.has(formula)) {
                return 0;
            }
            long rest = formulas.within[formula];
            for (int i = 0; i < Formulas.LARGEST && rest != 0; i++) {
                int part = Long.bitCount((rest & -rest) - 1);
                rest &= rest - 1;
                if (part < Formulas.MOST) {
                    places[part] = placesBy(formulas.kind[part], formulas.first[part], formulas.second[part]);
                }
            }
            return places[formula];
        }

        private int placesBy(char kind, int first, int second) {
            int all = (1 << length) - 1;
            int a = first >= 0 && first < places.length ? places[first] : 0;
            int b = second >= 0 && second < places.length ? places[second] : 0;
            switch (kind) {
                case 't': return all;
                case 'i': return placesOfBit(first);
                case 'o': return placesOfBit(inputs + first);
                case '!': return all & ~a;
                case '&': return a & b;
                case '|': return a | b;
                case '>': return all & ~a | b;
                case 'X': return ahead(a);
                case 'F': return until(all, a, 0);
                case 'G': return release(0, a, all);
                case 'U': return until(a, b, 0);
                case 'W': return until(a, b, all);
                case 'R': return release(a, b, all);
                default: return 0;
            }
        }

        private int placesOfBit(int bit) {
            int set = 0;
            for (int i = 0; i < length; i++) {
                set |= (letters[i] >> bit & 1) << i;
            }
            return set;
        }

        /** The places whose next one is in the set. */
        private int ahead(int set) {
            return length == 0 ? 0 : set >> 1 | (set >> loop & 1) << length - 1;
        }

        /** Each round tells one place more; begun with all places, it tells what may also never come. */
        private int until(int stay, int goal, int start) {
            int before = start;
            int set = goal | stay & ahead(start);
            for (int i = 0; i < length && set != before; i++) {
                before = set;
                set = goal | stay & ahead(set);
            }
            return set;
        }

        private int release(int freed, int kept, int start) {
            int before = start;
            int set = kept & (freed | ahead(start));
            for (int i = 0; i < length && set != before; i++) {
                before = set;
                set = kept & (freed | ahead(set));
            }
            return set;
        }
    }

    /**
     * A machine that reads words from its state 0 on, for one formula or its contrary: a word is taken if
     * some way through it sees each mark again and again. An edge is its target and, above it, its marks.
     */
    private static final class Automaton {
        static final int TARGET_BITS = 8;
        static final int TARGETS = (1 << TARGET_BITS) - 1;

        final int marks;
        /** How many letters more than those up to a place it must know to read this place. */
        final int reach;
        /**
         * The letter bits that it looks at, four a letter, from the last letter that it must know back. As bits
         * from the lowest on they make the letters that it reads.
         */
        final int[] atoms;
        final int letters;
        /** For each state and letter where its edges begin; they end where the next row begins. */
        final int[] start;
        final int[] edges;

        Automaton(int marks, int reach, int[] atoms, int[] start, int[] edges) {
            this.marks = marks;
            this.reach = reach;
            this.atoms = atoms;
            this.letters = 1 << atoms.length;
            this.start = start;
            this.edges = edges;
        }

        /** How many states it has, each as often as there are last letters that are still looked at. */
        int cost() {
            int kept = 0;
            for (int i = 0; i < atoms.length; i++) {
                for (int bit = atoms[i] - Alphabet.MOST_BITS; bit >= 0; bit -= Alphabet.MOST_BITS) {
                    kept |= 1 << bit;
                }
            }
            return start.length - 1 >> atoms.length << Integer.bitCount(kept);
        }

        boolean isLike(Automaton other) {
            return marks == other.marks && reach == other.reach && sameRow(atoms, other.atoms)
                && sameRow(start, other.start) && sameRow(edges, other.edges);
        }

        private static boolean sameRow(int[] one, int[] other) {
            boolean same = one.length == other.length;
            for (int i = 0; i < one.length && same; i++) {
                same = one[i] == other[i];
            }
            return same;
        }
    }

    /** Rows of edges, row behind row, that grow as they are written. */
    private static final class Rows {
        int[] start = new int[64];
        int[] edges = new int[64];
        int rows;
        int count;

        void clear() {
            rows = 0;
            count = 0;
            start[0] = 0;
        }

        void endRow() {
            if (rows + 1 >= start.length) {
                start = Arrays.copyOf(start, 2 * start.length);
            }
            rows++;
            start[rows] = count;
        }

        int startOf(int row) {
            return row >= 0 && row <= rows ? start[row] : count;
        }

        int at(int index) {
            return index >= 0 && index < count ? edges[index] : 0;
        }

        /** Adds an edge to the row that is being written, by rising numbers, if none there is as good. */
        void add(int edge) {
            int from = start[rows];
            int kept = from;
            for (int i = from; i < count; i++) {
                int other = edges[i];
                boolean sameTarget = (other & Automaton.TARGETS) == (edge & Automaton.TARGETS);
                if (sameTarget && (other | edge) == other) {
                    return;
                }
                if (!sameTarget || (other | edge) != edge) {
                    edges[kept] = other;
                    kept++;
                }
            }
            if (kept >= edges.length) {
                edges = Arrays.copyOf(edges, 2 * edges.length);
            }
            int at = kept;
            while (at > from && edges[at - 1] > edge) {
                edges[at] = edges[at - 1];
                at--;
            }
            edges[at] = edge;
            count = kept + 1;
        }

        boolean sameRows(int one, int other, int many) {
            int shift = startOf(other) - startOf(one);
            for (int i = 1; i <= many; i++) {
                if (startOf(other + i) - startOf(one + i) != shift) {
                    return false;
                }
            }
            for (int i = startOf(one); i < startOf(one + many); i++) {
                if (at(i) != at(i + shift)) {
                    return false;
                }
            }
            return true;
        }
    }

    /**
     * A formula or its contrary, in plainer words. At first it is a tree of at most 8 nodes without '!', each
     * some places ahead of the node above it. Then the nodes are elements, those with lower numbers inside
     * those with higher ones. Literals look at atoms: bits of letters, some of which may be places ahead, as
     * to guess them would need a state for each set of places. For each letter of atoms an element has
     * clauses: sets of elements, as bits, one of which must hold from the next place on.
     */
    private static final class Elements {
        static final int MOST = Formulas.LARGEST;
        /** A tree of 8 nodes, of which none has more than two parts, has no more leaves. */
        static final int MOST_ATOMS = 4;
        /** As many as there can be sets of 8 elements of which none is in another one. */
        static final int MOST_CLAUSES = 70;
        static final int NONE = -1;
        /** Where a node stands that is not looked at any more. */
        static final int AWAY = -3;
        /** Where a node stands that must hold at each place for some time. */
        static final int STEADY = -2;
        /** Where a node stands that need hold at one place only. */
        static final int ONCE = -1;

        static final int TRUE = 0;
        static final int FALSE = 1;
        static final int LITERAL = 2;
        static final int AND = 3;
        static final int OR = 4;
        static final int NEXT = 5;
        /** The second part, or the first one and itself at the next place; it must come. */
        static final int UNTIL = 6;
        /** The same, but it may never come. */
        static final int UNLESS = 7;
        /** The second part, and the first one or itself at the next place; the first one may never come. */
        static final int RELEASE = 8;
        /** The same, but the first one must come. */
        static final int FREED = 9;

        final Formulas formulas;
        final Alphabet alphabet;
        final int[] nodeForm = new int[MOST];
        /** The parts of a node, perhaps none as the first one, or the bit and the value of a literal. */
        final int[] one = new int[MOST];
        final int[] two = new int[MOST];
        /** How many places a node is ahead of the one above it. */
        final int[] ahead = new int[MOST];
        /** How many places ahead of the whole one a node's literals look, or ONCE or STEADY, or AWAY. */
        final int[] offset = new int[MOST];
        final int[] elementOf = new int[MOST];
        int nodes;
        /** The nodes that hold at all places if at one, as bits. */
        int lasting;
        final int[] form = new int[MOST];
        /** The first part of an element, perhaps none, or the atom of a literal. */
        final int[] left = new int[MOST];
        /** The second part of an element, or the value of a literal. */
        final int[] right = new int[MOST];
        final int[] atom = new int[MOST_ATOMS];
        final int[] clauses = new int[(MOST << MOST_ATOMS) * MOST_CLAUSES];
        final int[] clauseCount = new int[MOST << MOST_ATOMS];
        int atoms;
        int count;
        /** The elements that must not be put off for ever. */
        int promises;

        Elements(Formulas formulas, Alphabet alphabet) {
            this.formulas = formulas;
            this.alphabet = alphabet;
        }

        /** Makes the elements of a formula or of its contrary, and answers the one that is the whole. */
        int gather(int formula, int side, boolean looksAhead) {
            nodes = 0;
            lasting = 0;
            atoms = 0;
            count = 0;
            promises = 0;
            if (!formulas.has(formula)) {
                return NONE;
            }
            addNode(2 * formula + side, NONE);
            offset[0] = ONCE;
            for (int node = 0; node < nodes && node < MOST; node++) {
                expand(node);
            }
            for (int node = nodes - 1; node >= 0; node--) {
                pullAhead(node);
            }
            for (int node = 0; node < nodes; node++) {
                placeParts(node, looksAhead);
            }
            for (int node = nodes - 1; node >= 0; node--) {
                makeElement(node);
            }
            for (int letter = 0; letter < letters(); letter++) {
                for (int element = 0; element < count; element++) {
                    writeClauses(letter, element);
                }
            }
            return elementOf[0];
        }

        int letters() {
            return 1 << atoms;
        }

        /** Adds a node for a formula, two numbers each, the second one for its contrary; it is expanded later. */
        private int addNode(int code, int above) {
            if (nodes >= MOST) {
                return NONE;
            }
            int node = nodes;
            nodes++;
            one[node] = code;
            two[node] = above;
            ahead[node] = 0;
            offset[node] = AWAY;
            return node;
        }

        /** Leaves away what does not count under an F or a G right above, as with F F a, F (a U b), G (a R b). */
        private void expand(int node) {
            int part = one[node] >> 1;
            int side = one[node] & 1;
            int above = two[node];
            char kind = formulas.kind[part];
            boolean passed = true;
            for (int i = 0; i < MOST && passed; i++) {
                passed = kind == 'X' || kind == '!' || formOf(kind, side) == above;
                if (passed) {
                    ahead[node] += kind == 'X' ? 1 : 0;
                    side = kind == '!' ? 1 - side : side;
                    part = Formulas.partsOf(kind) == 2 ? formulas.second[part] : formulas.first[part];
                    kind = formulas.kind[part];
                }
            }
            int newForm = formOf(kind, side);
            int first = formulas.first[part];
            one[node] = NONE;
            two[node] = NONE;
            if (newForm == LITERAL) {
                one[node] = kind == 'o' ? alphabet.inputs + first : first;
                two[node] = 1 - side;
            } else if (Formulas.partsOf(kind) == 1) {
                two[node] = addNode(2 * first + side, newForm);
            } else if (Formulas.partsOf(kind) == 2) {
                one[node] = addNode(2 * first + (kind == '>' ? 1 - side : side), NONE);
                two[node] = addNode(2 * formulas.second[part] + side, NONE);
            }
            boolean either = above == RELEASE && newForm == UNLESS;
            boolean both = above == UNTIL && newForm == FREED;
            nodeForm[node] = either ? OR : both ? AND : newForm;
        }

        private static int formOf(char kind, int side) {
            boolean plain = side == 0;
            switch (kind) {
                case 't': return plain ? TRUE : FALSE;
                case 'i': case 'o': return LITERAL;
                case '&': return plain ? AND : OR;
                case '|': case '>': return plain ? OR : AND;
                case 'F': case 'U': return plain ? UNTIL : RELEASE;
                case 'W': return plain ? UNLESS : FREED;
                case 'G': case 'R': return plain ? RELEASE : UNTIL;
                default: return plain ? FALSE : TRUE;
            }
        }

        private boolean lasts(int node) {
            return node < 0 || (lasting >> node & 1) != 0;
        }

        /** What is ahead in all parts is ahead of the whole; a U F b and a U G F b are without a. */
        private void pullAhead(int node) {
            int newForm = nodeForm[node];
            int first = one[node];
            int second = two[node];
            boolean constant = newForm == TRUE || newForm == FALSE;
            if (constant || newForm == LITERAL || second < 0) {
                lasting |= constant ? 1 << node : 0;
                ahead[node] = constant ? 0 : ahead[node];
                return;
            }
            boolean comes = newForm == UNTIL || newForm == RELEASE;
            if (comes && (lasts(second) || nodeForm[second] == newForm && one[second] == NONE)) {
                nodeForm[node] = nodeForm[second];
                one[node] = one[second];
                two[node] = two[second];
                ahead[node] = lasts(second) ? 0 : ahead[node] + ahead[second];
                lasting |= lasts(second) ? 1 << node : 0;
                return;
            }
            int least = lasts(second) ? lasts(first) ? 0 : ahead[first] : ahead[second];
            if (!lasts(first)) {
                least = Math.min(least, ahead[first]);
                ahead[first] -= least;
            }
            ahead[second] -= lasts(second) ? 0 : least;
            ahead[node] += least;
            boolean crosses = comes && first == NONE && one[second] == NONE
                && nodeForm[second] == (newForm == UNTIL ? RELEASE : UNTIL);
            if (crosses || (newForm == AND || newForm == OR) && lasts(first) && lasts(second)) {
                lasting |= 1 << node;
                ahead[node] = 0;
            }
        }

        /** What need hold in some places only, not in each for some time, is looked at ahead. */
        private void placeParts(int node, boolean looksAhead) {
            int place = offset[node];
            int newForm = nodeForm[node];
            if (place == AWAY || newForm == LITERAL) {
                return;
            }
            boolean ends = newForm == UNTIL || newForm == UNLESS;
            boolean passesOn = place < 0 && newForm == AND || place == ONCE && newForm == OR;
            int firstPlace = passesOn ? place : looksAhead ? Math.max(place, 0) : STEADY;
            int secondPlace = firstPlace;
            if (place == ONCE && !passesOn) {
                firstPlace = ends ? STEADY : ONCE;
                secondPlace = ends ? ONCE : STEADY;
            }
            putPlace(one[node], firstPlace);
            putPlace(two[node], secondPlace);
        }

        private void putPlace(int part, int place) {
            if (part >= 0) {
                offset[part] = place < 0 ? place : lasts(part) ? 0 : place + ahead[part];
            }
        }

        private void makeElement(int node) {
            if (offset[node] == AWAY) {
                return;
            }
            int first = one[node];
            int second = two[node];
            int result;
            if (nodeForm[node] == LITERAL) {
                result = element(LITERAL, atomAt(first, Math.max(offset[node], 0)), second);
            } else {
                int leftPart = first >= 0 ? elementOf[first] : NONE;
                result = element(nodeForm[node], leftPart, second >= 0 ? elementOf[second] : NONE);
            }
            if (offset[node] < 0) {
                for (int i = 0; i < ahead[node]; i++) {
                    result = element(NEXT, NONE, result);
                }
            }
            elementOf[node] = result;
        }

        private int atomAt(int bit, int places) {
            int wanted = Alphabet.MOST_BITS * places + bit;
            for (int i = 0; i < atoms; i++) {
                if (atom[i] == wanted) {
                    return i;
                }
            }
            if (atoms >= MOST_ATOMS) {
                return NONE;
            }
            atom[atoms] = wanted;
            atoms++;
            return atoms - 1;
        }

        private int element(int newForm, int first, int second) {
            for (int i = 0; i < count; i++) {
                if (form[i] == newForm && left[i] == first && right[i] == second) {
                    return i;
                }
            }
            if (count >= MOST) {
                return NONE;
            }
            int made = count;
            count++;
            form[made] = newForm;
            left[made] = first;
            right[made] = second;
            promises |= newForm == UNTIL || newForm == FREED ? 1 << made : 0;
            return made;
        }

        private void writeClauses(int letter, int element) {
            int row = letter * MOST + element;
            int first = letter * MOST + left[element];
            int second = letter * MOST + right[element];
            int self = 1 << element;
            clauseCount[row] = 0;
            switch (form[element]) {
                case TRUE:
                    addClause(row, 0);
                    break;
                case LITERAL:
                    if ((letter >> left[element] & 1) == right[element]) {
                        addClause(row, 0);
                    }
                    break;
                case AND:
                    addBoth(row, first, second);
                    break;
                case OR:
                    addWith(row, first, 0);
                    addWith(row, second, 0);
                    break;
                case NEXT:
                    addClause(row, 1 << right[element]);
                    break;
                case UNTIL: case UNLESS:
                    addWith(row, second, 0);
                    if (left[element] == NONE) {
                        addClause(row, self);
                    } else {
                        addWith(row, first, self);
                    }
                    break;
                case RELEASE: case FREED:
                    addWith(row, second, self);
                    if (left[element] != NONE) {
                        addBoth(row, first, second);
                    }
                    break;
                default:
                    break;
            }
        }

        private void addWith(int row, int from, int more) {
            for (int i = 0; i < clausesOf(from); i++) {
                addClause(row, clause(from, i) | more);
            }
        }

        private void addBoth(int row, int one, int other) {
            for (int i = 0; i < clausesOf(one); i++) {
                addWith(row, other, clause(one, i));
            }
        }

        int clausesOf(int row) {
            return row >= 0 && row < clauseCount.length ? clauseCount[row] : 0;
        }

        int clause(int row, int index) {
            int at = row * MOST_CLAUSES + index;
            return at >= 0 && at < clauses.length ? clauses[at] : 0;
        }

        /** Keeps only clauses of which none is in another one: more to hold is never easier. */
        private void addClause(int row, int set) {
            int base = row * MOST_CLAUSES;
            int kept = 0;
            for (int i = 0; i < clauseCount[row]; i++) {
                int other = clauses[base + i];
                if ((other & set) == other) {
                    return;
                }
                if ((other & set) != set) {
                    clauses[base + kept] = other;
                    kept++;
                }
            }
            if (kept < MOST_CLAUSES) {
                clauses[base + kept] = set;
                kept++;
            }
            clauseCount[row] = kept;
        }

        /** Which promises, by their order, a step into a set keeps or need not keep. */
        int marksOf(int letter, int set) {
            int marks = 0;
            int bit = 1;
            for (int element = 0; element < count; element++) {
                if ((promises >> element & 1) != 0) {
                    if ((set >> element & 1) == 0 || isKept(letter, element, set)) {
                        marks |= bit;
                    }
                    bit <<= 1;
                }
            }
            return marks;
        }

        private boolean isKept(int letter, int element, int set) {
            int row = letter * MOST + element;
            for (int i = 0; i < clausesOf(row); i++) {
                int clause = clause(row, i);
                if ((clause >> element & 1) == 0 && (clause & set) == clause) {
                    return true;
                }
            }
            return false;
        }
    }

    /** Makes automata: a state is a set of elements that hold from a place on; like states are one. */
    private static final class AutomatonMaker {
        static final int SETS = 1 << Elements.MOST;

        final Elements elements;
        final Rows raw = new Rows();
        final Rows merged = new Rows();
        final int[] setOf = new int[SETS];
        final int[] stateOf = new int[SETS];
        final int[] seen = new int[SETS];
        final int[] unions = new int[SETS];
        final int[] widened = new int[SETS];
        final int[] classOf = new int[SETS];
        final int[] newClassOf = new int[SETS];
        final int[] firstOf = new int[SETS];
        int states;
        int round;

        AutomatonMaker(Formulas formulas, Alphabet alphabet) {
            elements = new Elements(formulas, alphabet);
        }

        /** Makes the automaton of the elements that were gathered, from the state of the whole one on. */
        Automaton make(int whole) {
            for (int set = 0; set < SETS; set++) {
                stateOf[set] = -1;
            }
            states = 0;
            stateFor(whole >= 0 ? 1 << whole : 0);
            raw.clear();
            for (int state = 0; state < states && state < SETS; state++) {
                for (int letter = 0; letter < elements.letters(); letter++) {
                    writeRow(setOf[state], letter);
                    raw.endRow();
                }
            }
            return pick(merge());
        }

        private int stateFor(int set) {
            int known = stateOf[set & SETS - 1];
            if (known >= 0 || states >= SETS) {
                return known;
            }
            stateOf[set & SETS - 1] = states;
            setOf[states] = set & SETS - 1;
            states++;
            return states - 1;
        }

        private void writeRow(int set, int letter) {
            int many = 1;
            unions[0] = 0;
            for (int element = 0; element < elements.count; element++) {
                if ((set >> element & 1) != 0) {
                    many = widen(many, letter * Elements.MOST + element);
                }
            }
            for (int i = 0; i < many; i++) {
                widened[i] = elements.marksOf(letter, unions[i]);
            }
            for (int i = 0; i < many; i++) {
                if (!isWorse(i, many)) {
                    raw.add(stateFor(unions[i]) | widened[i] << Automaton.TARGET_BITS);
                }
            }
        }

        /** Joins each union so far with each clause of a row. */
        private int widen(int many, int row) {
            round++;
            int wider = 0;
            for (int i = 0; i < many; i++) {
                for (int k = 0; k < elements.clausesOf(row); k++) {
                    int union = (unions[i] | elements.clause(row, k)) & SETS - 1;
                    if (seen[union] != round && wider < SETS) {
                        seen[union] = round;
                        widened[wider] = union;
                        wider++;
                    }
                }
            }
            System.arraycopy(widened, 0, unions, 0, wider);
            return wider;
        }

        /** Whether another union asks for less and keeps the same promises. */
        private boolean isWorse(int one, int many) {
            for (int i = 0; i < many; i++) {
                boolean less = unions[i] != unions[one] && (unions[i] & unions[one]) == unions[i];
                if (less && (widened[i] & widened[one]) == widened[one]) {
                    return true;
                }
            }
            return false;
        }

        /** Splits the states into classes until states of one class have the same edges to classes. */
        private int merge() {
            for (int state = 0; state < states; state++) {
                classOf[state] = 0;
            }
            int classes = 1;
            for (int i = 0; i < SETS; i++) {
                writeMerged();
                int now = split();
                if (now == classes) {
                    break;
                }
                classes = now;
            }
            return classes;
        }

        private void writeMerged() {
            merged.clear();
            for (int row = 0; row < raw.rows; row++) {
                for (int i = raw.startOf(row); i < raw.startOf(row + 1); i++) {
                    int edge = raw.at(i);
                    int target = edge & Automaton.TARGETS;
                    merged.add(edge - target | classOf[target]);
                }
                merged.endRow();
            }
        }

        private int split() {
            int many = elements.letters();
            int classes = 0;
            for (int state = 0; state < states; state++) {
                int same = -1;
                for (int c = 0; c < classes && same < 0; c++) {
                    boolean together = classOf[firstOf[c]] == classOf[state];
                    if (together && merged.sameRows(firstOf[c] * many, state * many, many)) {
                        same = c;
                    }
                }
                if (same < 0) {
                    firstOf[classes] = state;
                    same = classes;
                    classes++;
                }
                newClassOf[state] = same;
            }
            System.arraycopy(newClassOf, 0, classOf, 0, states);
            return classes;
        }

        private Automaton pick(int classes) {
            int many = elements.letters();
            int total = 0;
            for (int c = 0; c < classes; c++) {
                total += merged.startOf((firstOf[c] + 1) * many) - merged.startOf(firstOf[c] * many);
            }
            int[] start = new int[classes * many + 1];
            int[] edges = new int[Math.max(total, 0)];
            int at = 0;
            for (int c = 0; c < classes; c++) {
                for (int letter = 0; letter < many; letter++) {
                    int row = firstOf[c] * many + letter;
                    for (int i = merged.startOf(row); i < merged.startOf(row + 1) && at < total; i++) {
                        edges[at] = merged.at(i);
                        at++;
                    }
                    start[c * many + letter + 1] = at;
                }
            }
            int[] atoms = Arrays.copyOf(elements.atom, elements.atoms);
            int reach = 0;
            for (int i = 0; i < atoms.length; i++) {
                reach = Math.max(reach, atoms[i] / Alphabet.MOST_BITS);
            }
            for (int i = 0; i < atoms.length; i++) {
                int bit = atoms[i] % Alphabet.MOST_BITS;
                atoms[i] = Alphabet.MOST_BITS * (reach - atoms[i] / Alphabet.MOST_BITS) + bit;
            }
            return new Automaton(Integer.bitCount(elements.promises), reach, atoms, start, edges);
        }
    }

    /** A controller or an environment, whole or in part; a step that it does not have goes to NOWHERE. */
    private static final class Machine {
        static final int MOST_STEPS = 16;
        static final int MOST_DIGITS = 16;
        static final int NOWHERE = -1;

        final Alphabet alphabet;
        boolean environment;
        int states;
        /** How many letters it may be given in each state. */
        int choices;
        /** How many digits a state has in the rows: an environment's input letter stands ahead of its steps. */
        int rowLength;
        /** For each state and letter given, the letter of the word that comes of it, and the next state. */
        final int[] whole = new int[MOST_STEPS];
        final int[] next = new int[MOST_STEPS];
        final int[] input = new int[MOST_STEPS];
        final int[] firstAt = new int[MOST_STEPS];

        Machine(Alphabet alphabet) {
            this.alphabet = alphabet;
        }

        void beEmpty(boolean isEnvironment, int size) {
            environment = isEnvironment;
            states = size;
            choices = isEnvironment ? alphabet.outputLetters : alphabet.inputLetters;
            rowLength = isEnvironment ? choices + 1 : choices;
            for (int i = 0; i < MOST_STEPS; i++) {
                next[i] = NOWHERE;
            }
        }

        /** Makes it the machine of one state that does all words. */
        void beFree() {
            environment = false;
            states = 1;
            choices = alphabet.letters;
            rowLength = choices;
            for (int i = 0; i < MOST_STEPS; i++) {
                whole[i] = i;
                next[i] = 0;
            }
        }

        void copy(Machine other) {
            environment = other.environment;
            states = other.states;
            choices = other.choices;
            rowLength = other.rowLength;
            System.arraycopy(other.whole, 0, whole, 0, MOST_STEPS);
            System.arraycopy(other.next, 0, next, 0, MOST_STEPS);
        }

        /** How many numbers its rows have, if a controller's output letter and next state count as one. */
        int digits() {
            return states * rowLength;
        }

        int baseOf(int digit) {
            if (!environment) {
                return alphabet.outputLetters * states;
            }
            return columnOf(digit) == 0 ? alphabet.inputLetters : states;
        }

        private int rowOf(int digit) {
            return rowLength > 0 ? digit / rowLength : 0;
        }

        private int columnOf(int digit) {
            return rowLength > 0 ? digit % rowLength : 0;
        }

        /** Puts a digit of the rows, and answers whether it has one step more by it. */
        boolean put(int digit, int value) {
            int row = rowOf(digit);
            int column = columnOf(digit);
            if (!environment) {
                int answer = states > 0 ? value / states : 0;
                putStep(digit, column | answer << alphabet.inputs, value - answer * states);
                return true;
            }
            if (column == 0) {
                if (row >= 0 && row < input.length) {
                    input[row] = value;
                }
                return false;
            }
            int given = row >= 0 && row < input.length ? input[row] : 0;
            putStep(row * choices + column - 1, given | column - 1 << alphabet.inputs, value);
            return true;
        }

        void takeAway(int digit) {
            int column = columnOf(digit);
            if (!environment) {
                putStep(digit, 0, NOWHERE);
            } else if (column > 0) {
                putStep(rowOf(digit) * choices + column - 1, 0, NOWHERE);
            }
        }

        private void putStep(int index, int letter, int target) {
            if (index >= 0 && index < MOST_STEPS) {
                whole[index] = letter;
                next[index] = target;
            }
        }

        private boolean hasStep(int state, int letter) {
            return state >= 0 && state < states && letter >= 0 && letter < choices
                && state * choices + letter < MOST_STEPS;
        }

        int target(int state, int letter) {
            return hasStep(state, letter) ? next[state * choices + letter] : NOWHERE;
        }

        int wholeLetter(int state, int letter) {
            return hasStep(state, letter) ? whole[state * choices + letter] : 0;
        }

        int answer(int state, int letter) {
            int both = wholeLetter(state, letter);
            return environment ? both & alphabet.inputLetters - 1 : both >> alphabet.inputs;
        }

        /**
         * Makes the word of a run by letters, two bits each, of which those from the place back on repeat,
         * until a state comes again ahead of the same letter.
         */
        int play(int letters, int many, int back, Word word) {
            word.empty();
            int been = 0;
            int state = 0;
            int turn = 0;
            for (int i = 0; i < Word.LONGEST; i++) {
                int index = turn * 2 + (state & 1);
                if (index >= firstAt.length) {
                    break;
                }
                if ((been >> index & 1) != 0) {
                    word.loop = firstAt[index];
                    break;
                }
                been |= 1 << index;
                firstAt[index] = i;
                int letter = letters >> 2 * turn & 3;
                word.add(wholeLetter(state, letter));
                state = target(state, letter);
                turn = turn + 1 < many ? turn + 1 : back;
            }
            return word.length;
        }
    }

    /**
     * Looks for a word of a machine that some automata all take: a loop, reached from the beginning of all,
     * that has each mark of each automaton. The ways are gone through in depth; loops that hang together
     * are one group, whose first node is its root (Couvreur's algorithm). Rows grow with what a search needs.
     */
    private static final class Product {
        static final int MOST_PARTS = 4;
        /** A key has the state of the machine, how far it is ahead, its last letters, and the automata's states. */
        static final int KNOWN_BITS = 3;
        static final int LETTERS_AT = 1 + KNOWN_BITS;
        static final int MOST_KNOWN = 7;
        static final int LETTERS = (1 << Alphabet.MOST_BITS * MOST_KNOWN) - 1;
        static final int STATES_AT = 32;
        static final int STATE_BITS = 7;
        static final int STATES = (1 << STATE_BITS) - 1;
        static final int BRANCH_BITS = 20;
        static final int BRANCHES = (1 << BRANCH_BITS) - 1;
        static final int GONE = -1;
        static final long MIXER = 0x9E3779B97F4A7C15L;
        /**
         * No search has so many. Of all formulas of the size 8 and less, which ParityforgeAutomata counts, none has
         * an automaton with more than 28 states, each as often as there are letters kept for it; so 2 states of a
         * machine, 4 automata and 0 to 4 letters known make 2 * 28^4 * 5 nodes at most, some 6 millions.
         */
        static final int MOST_NODES = 1 << 23;
        /** From here on fewer automata are asked first. */
        static final int FEW_NODES = 4096;
        static final int NO_WORD = 0;
        static final int A_WORD = 1;
        static final int UNKNOWN = 2;
        /** The sets of up to 4 automata by their sizes. */
        static final int[] SETS = {1, 2, 4, 8, 3, 5, 6, 9, 10, 12, 7, 11, 13, 14};
        /**
         * Nor so many turns: none has more than 34 edges for one letter, those of all its states together, so at
         * most 16 steps of a machine make 16 * 34^4 * 5 edges, and 17 turns a node take no edge: some 211 millions.
         */
        static final int MOST_TURNS = 1 << 30;
        static final int MOST_FLOOR = 1 << 30;

        final Automaton[] part = new Automaton[MOST_PARTS];
        int parts;
        /** How many places the machine runs ahead of the automata, as they look at letters so far ahead. */
        int reach;
        /** The bits of the letters, from the place of the automata on, that are looked at later too. */
        int kept;
        int allMarks;
        /** Numbers of nodes above a floor, which rises with each search, so that old ones are void. */
        int[] slots = new int[256];
        long[] key = new long[128];
        /** For each node how far its edges have been looked at, GONE once its group is done with. */
        int[] turn = new int[128];
        int[] path = new int[128];
        int[] alive = new int[128];
        int[] root = new int[128];
        int[] rootMarks = new int[128];
        int[] entryMarks = new int[128];
        int floor;
        int count;
        int depth;
        int living;
        int roots;
        long edgeKey;
        int edgeMarks;

        void clear() {
            parts = 0;
        }

        void add(Automaton automaton) {
            for (int i = 0; i < parts; i++) {
                if (part[i] == automaton) {
                    return;
                }
            }
            if (parts < MOST_PARTS) {
                part[parts] = automaton;
                parts++;
            }
        }

        /**
         * If there are many nodes, the sets of fewer automata are asked first, by their sizes: if some have no
         * word, all have none.
         */
        boolean hasWord(Machine machine) {
            int all = (1 << parts) - 1;
            int answer = search(machine, all, FEW_NODES);
            for (int i = 0; i < SETS.length && answer == UNKNOWN; i++) {
                if (SETS[i] < all && search(machine, SETS[i], MOST_NODES) == NO_WORD) {
                    return false;
                }
            }
            return (answer == UNKNOWN ? search(machine, all, MOST_NODES) : answer) == A_WORD;
        }

        private int search(Machine machine, int chosen, int most) {
            lookAhead(chosen);
            forgetNodes();
            enter(slotOf(0), 0, 0);
            for (int i = 0; i < MOST_TURNS && depth > 0; i++) {
                int node = path[depth - 1];
                int letter = turn[node] >> BRANCH_BITS;
                if (letter >= machine.choices) {
                    leave(node);
                } else if (!takeBranch(machine, chosen, node)) {
                    turn[node] = letter + 1 << BRANCH_BITS;
                } else {
                    turn[node]++;
                    if (count >= key.length) {
                        grow();
                    }
                    int slot = slotOf(edgeKey);
                    int target = slots[slot] - floor - 1;
                    if (target < 0) {
                        if (count >= most) {
                            return UNKNOWN;
                        }
                        enter(slot, edgeKey, edgeMarks);
                    } else if (turn[target] != GONE && closesLoop(target, edgeMarks)) {
                        return A_WORD;
                    }
                }
            }
            return NO_WORD;
        }

        private void lookAhead(int chosen) {
            int markBits = 0;
            reach = 0;
            kept = 0;
            for (int i = 0; i < parts; i++) {
                if ((chosen >> i & 1) == 0) {
                    continue;
                }
                markBits += part[i].marks;
                reach = part[i].reach > reach ? part[i].reach : reach;
                for (int k = 0; k < part[i].atoms.length; k++) {
                    for (int bit = part[i].atoms[k] - Alphabet.MOST_BITS; bit >= 0; bit -= Alphabet.MOST_BITS) {
                        kept |= 1 << bit;
                    }
                }
            }
            allMarks = (1 << markBits) - 1;
        }

        private void forgetNodes() {
            floor += count;
            if (floor >= MOST_FLOOR) {
                for (int i = 0; i < slots.length; i++) {
                    slots[i] = 0;
                }
                floor = 0;
            }
            count = 0;
            depth = 0;
            living = 0;
            roots = 0;
        }

        /** The slot that has the node of a key, or in which it may be put. */
        private int slotOf(long wanted) {
            int mask = slots.length - 1;
            int at = (int) (wanted * MIXER >>> 32) & mask;
            for (int i = 0; i <= mask; i++) {
                int node = slots[at] - floor - 1;
                if (node < 0 || node >= count || key[node] == wanted) {
                    break;
                }
                at = at + 1 & mask;
            }
            return at;
        }

        private void enter(int slot, long newKey, int marks) {
            if (count >= key.length) {
                return;
            }
            int node = count;
            count++;
            key[node] = newKey;
            turn[node] = 0;
            slots[slot] = floor + count;
            path[depth] = node;
            depth++;
            alive[living] = node;
            living++;
            root[roots] = node;
            rootMarks[roots] = 0;
            entryMarks[roots] = marks;
            roots++;
        }

        /** Makes the rows twice as long; written out, as calls may not go deeper here (rule 11). */
        private void grow() {
            int size = 2 * key.length;
            if (size > MOST_NODES) {
                return;
            }
            long[] oldKey = key;
            int[] oldTurn = turn;
            int[] oldPath = path;
            int[] oldAlive = alive;
            int[] oldRoot = root;
            int[] oldRootMarks = rootMarks;
            int[] oldEntryMarks = entryMarks;
            key = new long[size];
            turn = new int[size];
            path = new int[size];
            alive = new int[size];
            root = new int[size];
            rootMarks = new int[size];
            entryMarks = new int[size];
            slots = new int[2 * size];
            floor = 0;
            int mask = slots.length - 1;
            for (int node = 0; node < count && node < oldKey.length; node++) {
                key[node] = oldKey[node];
                turn[node] = oldTurn[node];
                path[node] = oldPath[node];
                alive[node] = oldAlive[node];
                root[node] = oldRoot[node];
                rootMarks[node] = oldRootMarks[node];
                entryMarks[node] = oldEntryMarks[node];
                int at = (int) (key[node] * MIXER >>> 32) & mask;
                for (int i = 0; i <= mask && slots[at] != 0; i++) {
                    at = at + 1 & mask;
                }
                slots[at] = node + 1;
            }
        }

        private void leave(int node) {
            depth--;
            if (roots > 0 && root[roots - 1] == node) {
                roots--;
                boolean more = true;
                while (more && living > 0) {
                    living--;
                    turn[alive[living]] = GONE;
                    more = alive[living] != node;
                }
            }
        }

        /** Makes one group of all groups from that of a node on, and answers whether it has all marks. */
        private boolean closesLoop(int node, int marks) {
            int sum = marks;
            while (roots > 1 && root[roots - 1] > node) {
                roots--;
                sum |= rootMarks[roots] | entryMarks[roots];
            }
            if (roots > 0) {
                rootMarks[roots - 1] |= sum;
                sum = rootMarks[roots - 1];
            }
            return sum == allMarks;
        }

        /**
         * Takes the edge of a node by a letter and a choice of edges, the automata's choices being the digits
         * of the branch. The machine is ahead: an automaton reads a place once it knows all letters for it.
         */
        private boolean takeBranch(Machine machine, int chosen, int node) {
            long from = key[node];
            int index = (int) (from & 1) * machine.choices + (turn[node] >> BRANCH_BITS);
            if (index >= Machine.MOST_STEPS || machine.next[index] < 0) {
                return false;
            }
            int known = (int) (from >> 1) & MOST_KNOWN;
            long letters = (from >> LETTERS_AT & LETTERS) << Alphabet.MOST_BITS | machine.whole[index];
            int knownThen = known < reach ? known + 1 : reach;
            edgeKey = (letters & kept) << LETTERS_AT | knownThen << 1 | machine.next[index];
            edgeMarks = 0;
            int rest = turn[node] & BRANCHES;
            int markBits = 0;
            for (int i = 0; i < parts; i++) {
                Automaton automaton = part[i];
                if ((chosen >> i & 1) == 0 || known < automaton.reach) {
                    continue;
                }
                int shift = STATES_AT + STATE_BITS * i;
                int row = (int) (from >> shift) & STATES;
                for (int k = automaton.atoms.length - 1; k >= 0; k--) {
                    row = row << 1 | (int) (letters >> automaton.atoms[k]) & 1;
                }
                if (row + 1 >= automaton.start.length) {
                    return false;
                }
                int edge = automaton.start[row];
                int many = automaton.start[row + 1] - edge;
                if (many <= 0) {
                    return false;
                }
                edge += rest % many;
                rest /= many;
                if (edge >= automaton.edges.length) {
                    return false;
                }
                edgeKey |= (long) (automaton.edges[edge] & Automaton.TARGETS) << shift;
                edgeMarks |= automaton.edges[edge] >> Automaton.TARGET_BITS << markBits;
                markBits += automaton.marks;
            }
            return rest == 0;
        }
    }

    /** The assumptions and wishes, and what is found by them. */
    private static final class Forge {
        static final int MOST_ASSUMED = 2;
        static final int MOST_WISHED = 4;
        static final int MOST_TRIES = 1000000;
        static final int DEARER = 2;
        static final int PLAIN = 0;
        static final int CONTRARY = 1;
        static final char CONTROLLER = 'c';
        static final char ENVIRONMENT = 'e';
        static final char NOTHING = '?';

        final Formulas formulas;
        final Alphabet alphabet;
        final AutomatonMaker maker;
        final Product product = new Product();
        final Automaton[] automata = new Automaton[2 * Formulas.MOST];
        /** One more than may be made, for the assumption that is only asked about. */
        final int[] assumption = new int[MOST_ASSUMED + 1];
        final int[] wishOf = new int[MOST_WISHED];
        final int[] digit = new int[Machine.MOST_DIGITS];
        final Machine free;
        final Machine trial;
        final Machine found;
        final Word shortWord;
        int assumed;
        int wished;
        char kind;
        boolean known;
        int core;
        boolean coreKnown;
        boolean checked;
        boolean rightOnShortWords;

        Forge(Formulas formulas, Alphabet alphabet) {
            this.formulas = formulas;
            this.alphabet = alphabet;
            maker = new AutomatonMaker(formulas, alphabet);
            free = new Machine(alphabet);
            free.beFree();
            trial = new Machine(alphabet);
            found = new Machine(alphabet);
            shortWord = new Word(formulas, alphabet.inputs);
            kind = NOTHING;
        }

        int addAssumption(int formula) {
            forget();
            if (assumed < MOST_ASSUMED) {
                makeAutomaton(formula, PLAIN);
                makeAutomaton(formula, CONTRARY);
                assumption[assumed] = formula;
                assumed++;
            }
            return assumed;
        }

        int addWish(int formula) {
            forget();
            if (wished < MOST_WISHED) {
                makeAutomaton(formula, PLAIN);
                makeAutomaton(formula, CONTRARY);
                wishOf[wished] = formula;
                wished++;
            }
            return wished;
        }

        int dropAll() {
            forget();
            int before = assumed + wished;
            assumed = 0;
            wished = 0;
            return before;
        }

        private void forget() {
            known = false;
            coreKnown = false;
            checked = false;
        }

        boolean canHold(int formula, int side) {
            product.clear();
            makeAutomaton(formula, side);
            addPart(formula, side);
            return product.hasWord(free);
        }

        boolean canHoldWithout(int formula, int without) {
            product.clear();
            makeAutomaton(formula, PLAIN);
            makeAutomaton(without, CONTRARY);
            addPart(formula, PLAIN);
            addPart(without, CONTRARY);
            return product.hasWord(free);
        }

        /** Makes an automaton that looks ahead, as all then look at the same letters, if it is not much dearer. */
        private void makeAutomaton(int formula, int side) {
            if (!formulas.has(formula) || automata[2 * formula + side] != null) {
                return;
            }
            Automaton made = maker.make(maker.elements.gather(formula, side, true));
            if (made.reach > 0) {
                Automaton near = maker.make(maker.elements.gather(formula, side, false));
                made = made.cost() > DEARER * near.cost() ? near : made;
            }
            for (int i = 0; i < automata.length; i++) {
                made = automata[i] != null && automata[i].isLike(made) ? automata[i] : made;
            }
            automata[2 * formula + side] = made;
        }

        private void addPart(int formula, int side) {
            Automaton automaton = formulas.has(formula) ? automata[2 * formula + side] : null;
            if (automaton != null) {
                product.add(automaton);
            }
        }

        char kindFound() {
            if (!known) {
                kind = judge(assumed);
                if (kind != NOTHING) {
                    found.copy(trial);
                }
                known = true;
            }
            return kind;
        }

        char kindWith(int formula) {
            if (known && kind == CONTROLLER) {
                return CONTROLLER;
            }
            makeAutomaton(formula, PLAIN);
            makeAutomaton(formula, CONTRARY);
            assumption[assumed] = formula;
            return judge(assumed + 1);
        }

        private int allWishes() {
            return (1 << wished) - 1;
        }

        private char judge(int assumptions) {
            int wishes = allWishes();
            for (int size = 1; size <= 2; size++) {
                if ((size == 1 || alphabet.inputs == 1) && findMachine(false, size, assumptions, wishes)) {
                    return CONTROLLER;
                }
                if (findMachine(true, size, assumptions, wishes)) {
                    return ENVIRONMENT;
                }
            }
            return NOTHING;
        }

        /**
         * Tries the machines of a size by their rows, and leaves the first right one as the trial. A machine
         * that is broken by the steps that it has so far is not gone on with.
         */
        private boolean findMachine(boolean environment, int size, int assumptions, int wishes) {
            trial.beEmpty(environment, size);
            int digits = trial.digits();
            int at = 0;
            digit[0] = -1;
            for (int i = 0; i < MOST_TRIES && at >= 0 && at < digit.length; i++) {
                digit[at]++;
                if (digit[at] >= trial.baseOf(at)) {
                    trial.takeAway(at);
                    at--;
                } else {
                    boolean more = trial.put(at, digit[at]);
                    boolean broken = more
                        && (environment ? isBeaten(assumptions, wishes) : canFail(assumptions, wishes));
                    at = broken ? at : at + 1;
                    if (at >= digits) {
                        return true;
                    }
                    if (!broken && at < digit.length) {
                        digit[at] = -1;
                    }
                }
            }
            return false;
        }

        /** Whether some word of a controller keeps the assumptions, but not a wish. */
        private boolean canFail(int assumptions, int wishes) {
            for (int i = 0; i < MOST_WISHED; i++) {
                if ((wishes >> i & 1) != 0) {
                    product.clear();
                    for (int k = 0; k < assumptions; k++) {
                        addPart(assumption[k], PLAIN);
                    }
                    addPart(wishOf[i], CONTRARY);
                    if (product.hasWord(trial)) {
                        return true;
                    }
                }
            }
            return false;
        }

        /** Whether some word of an environment is well. */
        private boolean isBeaten(int assumptions, int wishes) {
            for (int k = 0; k < assumptions; k++) {
                product.clear();
                addPart(assumption[k], CONTRARY);
                if (product.hasWord(trial)) {
                    return true;
                }
            }
            product.clear();
            for (int i = 0; i < MOST_WISHED; i++) {
                if ((wishes >> i & 1) != 0) {
                    addPart(wishOf[i], PLAIN);
                }
            }
            return product.hasWord(trial);
        }

        /** The wishes of the core, as bits; to be asked for only if an environment is found. */
        int coreWishes() {
            if (!coreKnown) {
                core = findCore();
                coreKnown = true;
            }
            return core;
        }

        private int findCore() {
            for (int size = 1; size < wished; size++) {
                // Read with the first wish as the highest bit, falling numbers are the order of the sets.
                for (int set = allWishes(); set > 0; set--) {
                    if (Integer.bitCount(set) == size) {
                        int wishes = turned(set);
                        if (findMachine(true, 1, assumed, wishes) || findMachine(true, 2, assumed, wishes)) {
                            return wishes;
                        }
                    }
                }
            }
            return allWishes();
        }

        private int turned(int set) {
            int result = 0;
            for (int i = 0; i < wished; i++) {
                result |= (set >> i & 1) << wished - 1 - i;
            }
            return result;
        }

        /** Whether what is found is right for the words of at most 3 letters of which the last 1 or 2 repeat. */
        boolean isRightOnShortWords() {
            if (!checked) {
                rightOnShortWords = tryShortWords();
                checked = true;
            }
            return rightOnShortWords;
        }

        private boolean tryShortWords() {
            for (int many = 1; many <= 3; many++) {
                for (int repeated = 1; repeated <= 2 && repeated <= many; repeated++) {
                    for (int letters = 0; letters < 1 << 2 * many; letters++) {
                        if (isOfLetters(letters, many)) {
                            found.play(letters, many, many - repeated, shortWord);
                            if (isWell() != (kind == CONTROLLER)) {
                                return false;
                            }
                        }
                    }
                }
            }
            return true;
        }

        private boolean isOfLetters(int letters, int many) {
            for (int i = 0; i < many; i++) {
                if ((letters >> 2 * i & 3) >= found.choices) {
                    return false;
                }
            }
            return true;
        }

        private boolean isWell() {
            for (int k = 0; k < assumed; k++) {
                if ((shortWord.placesOf(assumption[k]) & 1) == 0) {
                    return true;
                }
            }
            for (int i = 0; i < wished; i++) {
                if ((shortWord.placesOf(wishOf[i]) & 1) == 0) {
                    return false;
                }
            }
            return true;
        }
    }

    /** A game with parities; sets of nodes are bits. */
    private static final class Game {
        static final int MOST = 12;
        static final int PRIORITIES = 8;
        static final int TOP = 1 << 16;
        static final int MOST_ROUNDS = 1000000;

        final int[] owner = new int[MOST];
        final int[] priority = new int[MOST];
        final int[] edges = new int[MOST];
        /** The edges with which the game is being solved. */
        final int[] ways = new int[MOST];
        final int[] moves = new int[MOST];
        final int[] measure = new int[MOST];
        int count;
        int wonByEven;
        boolean solved;
        int wonAnew;
        boolean solvedAnew;
        boolean movesKnown;

        int add(int newOwner, int newPriority) {
            forget();
            int node = count;
            if (node < MOST) {
                owner[node] = newOwner;
                priority[node] = newPriority;
                edges[node] = 0;
                count++;
            }
            return node;
        }

        boolean putEdge(int from, int to, boolean is) {
            forget();
            boolean was = (edges[from] >> to & 1) != 0;
            edges[from] = is ? edges[from] | 1 << to : edges[from] & ~(1 << to);
            return was;
        }

        int putPriority(int node, int newPriority) {
            forget();
            int before = priority[node];
            priority[node] = newPriority;
            return before;
        }

        int empty() {
            forget();
            int before = count;
            count = 0;
            return before;
        }

        private void forget() {
            solved = false;
            solvedAnew = false;
            movesKnown = false;
        }

        boolean hasAllEdges() {
            for (int i = 0; i < count; i++) {
                if (edges[i] == 0) {
                    return false;
                }
            }
            return true;
        }

        private int allNodes() {
            return (1 << count) - 1;
        }

        int wonNodes(int player) {
            if (!solved) {
                System.arraycopy(edges, 0, ways, 0, MOST);
                wonByEven = solve(this, allNodes(), MOST);
                solved = true;
            }
            return player == 0 ? wonByEven : allNodes() & ~wonByEven;
        }

        int playerWinning(int node) {
            return (wonNodes(0) >> node & 1) != 0 ? 0 : 1;
        }

        boolean isWonByOwner(int node) {
            return playerWinning(node) == owner[node];
        }

        /** The nodes of a part of a game that the player 0 wins in it (Zielonka's algorithm). */
        private static int solve(Game game, int nodes, int depth) {
            if (nodes == 0 || depth < 0) {
                return 0;
            }
            int those = game.greatestOf(nodes);
            int greatest = game.priority[Math.min(lowest(those), MOST - 1)];
            int player = greatest & 1;
            int rest = nodes & ~game.drawn(nodes, those, player);
            int even = solve(game, rest, depth - 1);
            int lost = player == 0 ? rest & ~even : even;
            if (lost == 0) {
                return player == 0 ? nodes : 0;
            }
            // From here the other player comes to what he has won for sure; the rest is looked at without it.
            int taken = game.drawn(nodes, lost, 1 - player);
            even = solve(game, nodes & ~taken, depth - 1);
            return player == 0 ? even : even | taken;
        }

        /** The nodes of a set that have its greatest priority. */
        private int greatestOf(int nodes) {
            int greatest = 0;
            int those = 0;
            for (int i = 0; i < count; i++) {
                if ((nodes >> i & 1) != 0 && priority[i] >= greatest) {
                    those = priority[i] > greatest ? 0 : those;
                    those |= 1 << i;
                    greatest = priority[i];
                }
            }
            return those;
        }

        /** The nodes from which a player can bring the game to a set. */
        private int drawn(int nodes, int set, int player) {
            int result = set;
            for (int round = 0; round < MOST; round++) {
                int before = result;
                for (int i = 0; i < count; i++) {
                    if (((nodes & ~result) >> i & 1) != 0) {
                        int inside = ways[i] & nodes;
                        boolean comes = owner[i] == player ? (inside & result) != 0 : (inside & ~result) == 0;
                        result |= comes ? 1 << i : 0;
                    }
                }
                if (result == before) {
                    break;
                }
            }
            return result;
        }

        int stepFrom(int node) {
            if (!movesKnown) {
                findMoves(wonNodes(0), 0);
                findMoves(wonNodes(1), 1);
                movesKnown = true;
            }
            return (wonNodes(owner[node]) >> node & 1) != 0 ? moves[node] : lowest(edges[node]);
        }

        private void findMoves(int region, int player) {
            System.arraycopy(edges, 0, ways, 0, MOST);
            for (int node = 0; node < count; node++) {
                if ((region >> node & 1) != 0 && owner[node] == player) {
                    moves[node] = firstGood(node, region, player);
                    ways[node] = 1 << moves[node];
                }
            }
        }

        /** The lowest node with which the player still wins a region; going out of it is never good. */
        private int firstGood(int node, int region, int player) {
            int all = ways[node] & region;
            for (int to = 0; to < count; to++) {
                if ((all >> to & 1) != 0) {
                    ways[node] = 1 << to;
                    int even = solve(this, region, MOST);
                    if ((player == 0 ? even : region & ~even) == region) {
                        return to;
                    }
                }
            }
            return lowest(edges[node]);
        }

        int greatestForEver(int node) {
            int at = node;
            int greatest = 0;
            for (int i = 0; i < 2 * MOST && at < count; i++) {
                // As many steps as there may be nodes lead into the loop, as many more go round it.
                if (i >= MOST) {
                    greatest = Math.max(greatest, priority[at]);
                }
                at = stepFrom(at);
            }
            return greatest;
        }

        /**
         * The nodes that the player 0 wins, by measures: each counts, four bits a number, how often the odd
         * priorities may come ahead of greater ones, the greatest priority in the highest bits. They grow,
         * as little as they can, until no node's is too small; a node at the top is lost.
         */
        int wonByMeasures() {
            if (!solvedAnew) {
                Arrays.fill(measure, 0);
                boolean grown = true;
                for (int round = 0; round < MOST_ROUNDS && grown; round++) {
                    grown = growMeasures();
                }
                wonAnew = 0;
                for (int i = 0; i < count; i++) {
                    wonAnew |= measure[i] < TOP ? 1 << i : 0;
                }
                solvedAnew = true;
            }
            return wonAnew;
        }

        private boolean growMeasures() {
            boolean grown = false;
            for (int i = 0; i < count; i++) {
                int due = owner[i] == 0 ? TOP : 0;
                for (int to = 0; to < count; to++) {
                    if ((edges[i] >> to & 1) != 0) {
                        int along = leastAlong(priority[i], measure[to]);
                        due = owner[i] == 0 ? Math.min(due, along) : Math.max(due, along);
                    }
                }
                if (due > measure[i]) {
                    measure[i] = due;
                    grown = true;
                }
            }
            return grown;
        }

        /** The least measure that a node of a priority may have ahead of a node with a measure. */
        private int leastAlong(int from, int measureThere) {
            if (measureThere >= TOP) {
                return TOP;
            }
            int low = 4 * (from >> 1);
            int kept = measureThere >> low << low;
            if ((from & 1) == 0) {
                return kept;
            }
            for (int odd = from; odd < PRIORITIES; odd += 2) {
                int shift = 4 * (odd >> 1);
                if ((kept >> shift & 15) < nodesOf(odd)) {
                    return kept + (1 << shift);
                }
                kept &= ~(15 << shift);
            }
            return TOP;
        }

        private int nodesOf(int wanted) {
            int sum = 0;
            for (int i = 0; i < count; i++) {
                sum += priority[i] == wanted ? 1 : 0;
            }
            return sum;
        }

        long weightedSum() {
            long sum = 0;
            for (int i = 0; i < count; i++) {
                long weight = 1;
                for (int k = 0; k < i % 8; k++) {
                    weight *= 100;
                }
                sum += (priority[i] * 10 + playerWinning(i)) * weight;
            }
            return sum;
        }
    }
}
