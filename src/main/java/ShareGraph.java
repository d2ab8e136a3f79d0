import java.util.Arrays;

/** A graph whose vertices are shared out to parts of nearly equal weight; DOC.md says what each call does. */
public final class ShareGraph {
    public static final int NONE = -1;

    private static final int MOST_BYTES = 800;
    private static final int FEED_BYTES = 20;
    private static final int MOST_VERTICES = 14;
    private static final int MOST_EDGES = 40;
    private static final int LEAST_PARTS = 2;
    private static final int MOST_PARTS = 4;
    private static final int MOST_WEIGHT = 99;
    private static final int MOST_ALLOWANCE = 99;
    private static final int MOST_LETTERS = 8;
    private static final int MOST_DIGITS = 3;
    private static final int MOST_NUMBER = 999;
    private static final int TOP_LEVEL = 4;
    private static final int MOST_EVENTS = 30;
    private static final int EVENT_NUMBERS = 4;
    private static final int MOST_UNDO = 6;
    private static final int MOST_BEST_GROUPS = 7;
    private static final int MOST_STEPS = 99;
    private static final int MOST_TRIED_STEPS = 200;
    private static final int STEP_BASE = 10;
    private static final int MOST_COMMANDS = 30;
    private static final int MOST_COMMANDS_DONE = 40;
    private static final int MOST_REPEATS = 20;
    private static final int MOST_REPEAT_DEPTH = 2;
    /** For each part a digit, a colon and a line feed; for each vertex a space, its name and a plus sign. */
    private static final int MOST_REPORT = MOST_PARTS * 3 + MOST_VERTICES * (MOST_LETTERS + 2);
    /** Stands far above the turns that any loop needs, so that each loop ends by its own lines. */
    private static final int MOST_TURNS = 1000000;

    /** More than any sum of weights or debts, which 14 vertices and 40 edges of at most 99 keep below 4000. */
    private static final int ABOVE_ALL = 1000000;

    private static final int WRONG_TOKEN = 1;
    private static final int WRONG_NUMBER = 2;
    private static final int WRONG_NAME = 3;
    private static final int ONCE_TOO_OFTEN = 4;
    private static final int TOO_MANY = 6;

    private final Tokens tokens = new Tokens();
    private final TextReader textReader = new TextReader();
    private final ScriptReader scriptReader = new ScriptReader();
    private final Script script = new Script();

    private final Graph graph = new Graph();
    private final Graph readGraph = new Graph();
    private final Graph savedGraph = new Graph();
    private final Sharing sharing = new Sharing();
    private final Sharing triedSharing = new Sharing();
    private final Sharing savedSharing = new Sharing();
    private boolean isSaved;
    private final History history = new History();

    private final Measures measures = new Measures();
    private final Pairs pairs = new Pairs();
    private final Best best = new Best();
    private final Flows flows = new Flows();

    private final int[] reportBytes = new int[MOST_REPORT];
    private int reportLength;

    public ShareGraph() {
        // All rows and numbers begin as an empty text would leave them.
    }

    // ---- texts

    public int feed(int a, int b, int c, int d, int e) throws IllegalStateException {
        if (tokens.length > MOST_BYTES - FEED_BYTES) {
            throw new IllegalStateException("the buffer would exceed 800 bytes");
        }
        tokens.append(a);
        tokens.append(b);
        tokens.append(c);
        tokens.append(d);
        tokens.append(e);
        return tokens.length;
    }

    public int truncate(int n) throws IllegalArgumentException {
        if (n < 0 || n > tokens.length) {
            throw new IllegalArgumentException("the buffer cannot have this length");
        }
        tokens.length = n;
        return n;
    }

    public int readText() throws IllegalArgumentException {
        tokens.begin();
        if (!textReader.read(tokens, readGraph)) {
            throw new IllegalArgumentException("the text has an error");
        }
        graph.copyFrom(readGraph);
        sharing.start(graph);
        history.forget();
        return graph.vertices;
    }

    public int runScript() throws IllegalArgumentException {
        tokens.begin();
        if (!scriptReader.read(tokens, script, graph)) {
            throw new IllegalArgumentException("the script has an error");
        }
        history.keep(sharing);
        return runCommands();
    }

    private int runCommands() {
        int done = 0;
        int i = 0;
        for (int turn = 0; turn < MOST_TURNS && i < script.size && done < MOST_COMMANDS_DONE; turn++) {
            int kind = at(script.kinds, i);
            if (kind == Script.REPEAT) {
                script.beginRepeat(i);
                i++;
            } else if (kind == Script.CLOSE) {
                i = script.behindClose(i);
            } else {
                int first = at(script.firsts, i);
                int second = at(script.seconds, i);
                if (!canPerform(kind, first, second)) {
                    return done;
                }
                perform(kind, first, second);
                done++;
                i++;
            }
        }
        return done;
    }

    private boolean canPerform(int kind, int first, int second) {
        switch (kind) {
            case Script.SHRINK:
                return whyNotShrink() == 0;
            case Script.GROW:
                return sharing.level > 0;
            case Script.MOVE:
                return hasGroup(first) && hasPart(second) && whyNotMove(first, second) == 0;
            case Script.STEP:
                return nextStep() != NONE;
            case Script.STEPS:
                return isStepCount(first);
            case Script.BEST:
                return hasFewGroups();
            case Script.APART:
                return hasVertex(first) && hasVertex(second) && first != second && canTakeApart();
            case Script.CREDIT:
                return isAllowance(first);
            default:
                return false;
        }
    }

    private void perform(int kind, int first, int second) {
        switch (kind) {
            case Script.SHRINK:
                mergeGroups();
                break;
            case Script.GROW:
                sharing.level--;
                break;
            case Script.MOVE:
                takeTo(first, second);
                break;
            case Script.STEP:
                makeSteps(sharing, 1);
                break;
            case Script.STEPS:
                makeSteps(sharing, first);
                break;
            case Script.BEST:
                searchBest();
                takeBest();
                break;
            case Script.APART:
                takeApart(first, second);
                break;
            case Script.CREDIT:
                sharing.credit = first;
                break;
            default:
                break;
        }
    }

    public int error(int what) throws IllegalArgumentException {
        switch (what) {
            case 0:
                return tokens.errorCode;
            case 1:
                return tokens.errorPosition;
            case 2:
                return tokens.errorDepth;
            default:
                throw new IllegalArgumentException("an error has the numbers 0 to 2");
        }
    }

    // ---- the graph

    public int setting(int what) throws IllegalArgumentException {
        switch (what) {
            case 0:
                return graph.vertices;
            case 1:
                return graph.edges;
            case 2:
                return graph.parts;
            case 3:
                return graph.slack;
            case 4:
                return sharing.credit;
            case 5:
                return graph.limit();
            case 6:
                return graph.vertexSum;
            case 7:
                return graph.edgeSum;
            case 8:
                return sharing.level;
            case 9:
                return sharing.groupCount();
            case 10:
                return history.count;
            case 11:
                return graph.largestPiece();
            default:
                throw new IllegalArgumentException("the settings are 0 to 11");
        }
    }

    private boolean hasVertex(int vertex) {
        return vertex >= 0 && vertex < graph.vertices;
    }

    private boolean hasPart(int part) {
        return part >= 0 && part < graph.parts;
    }

    private boolean hasGroup(int group) {
        return group >= 0 && group < sharing.groupCount();
    }

    private void requireVertex(int vertex) {
        if (!hasVertex(vertex)) {
            throw new IndexOutOfBoundsException("no such vertex");
        }
    }

    private void requirePart(int part) {
        if (!hasPart(part)) {
            throw new IndexOutOfBoundsException("no such part");
        }
    }

    private void requireGroup(int group) {
        if (!hasGroup(group)) {
            throw new IndexOutOfBoundsException("no such group");
        }
    }

    public int weight(int vertex) throws IndexOutOfBoundsException {
        requireVertex(vertex);
        return at(graph.weights, vertex);
    }

    public int edge(int edge, int what) throws IndexOutOfBoundsException, IllegalArgumentException {
        if (edge < 0 || edge >= graph.edges) {
            throw new IndexOutOfBoundsException("no such edge");
        }
        switch (what) {
            case 0:
                return at(graph.firsts, edge);
            case 1:
                return at(graph.seconds, edge);
            case 2:
                return at(graph.edgeWeights, edge);
            case 3:
                return isCut(edge) ? 1 : 0;
            default:
                throw new IllegalArgumentException("an edge has the numbers 0 to 3");
        }
    }

    private boolean isCut(int edge) {
        return at(sharing.parts, at(graph.firsts, edge)) != at(sharing.parts, at(graph.seconds, edge));
    }

    public int between(int vertex, int other) throws IndexOutOfBoundsException {
        requireVertex(vertex);
        requireVertex(other);
        int edge = graph.edgeOf(vertex, other);
        return edge == NONE ? 0 : at(graph.edgeWeights, edge);
    }

    public int flow(int vertex, int other) throws IndexOutOfBoundsException {
        requireVertex(vertex);
        requireVertex(other);
        if (vertex == other) {
            return 0;
        }
        flows.run(graph, vertex, other);
        return flows.total;
    }

    public int side(int vertex, int other) throws IndexOutOfBoundsException {
        requireVertex(vertex);
        requireVertex(other);
        if (vertex == other) {
            return 0;
        }
        flows.run(graph, vertex, other);
        return flows.reached;
    }

    public int leastFlow() {
        int least = NONE;
        // The least cut of all parts vertex 0 from some other vertex, so the flows from it are enough.
        for (int other = 1; other < graph.vertices; other++) {
            flows.run(graph, 0, other);
            if (least == NONE || flows.total < least) {
                least = flows.total;
            }
        }
        return least;
    }

    // ---- parts

    public int partOf(int vertex) throws IndexOutOfBoundsException {
        requireVertex(vertex);
        return at(sharing.parts, vertex);
    }

    public int part(int part, int what) throws IndexOutOfBoundsException, IllegalArgumentException {
        requirePart(part);
        measures.take(graph, sharing);
        switch (what) {
            case 0:
                return at(measures.partWeights, part);
            case 1:
                return measures.debtAt(at(measures.partWeights, part));
            case 2:
                return at(measures.partSets, part);
            case 3:
                return graph.pieces(at(measures.partSets, part));
            case 4:
                return cutAround(part);
            default:
                throw new IllegalArgumentException("a part has the numbers 0 to 4");
        }
    }

    private int cutAround(int part) {
        int set = at(measures.partSets, part);
        int sum = 0;
        for (int edge = 0; edge < graph.edges; edge++) {
            if (isCut(edge) && (graph.endsOf(edge) & set) != 0) {
                sum += at(graph.edgeWeights, edge);
            }
        }
        return sum;
    }

    public int cut() {
        measures.take(graph, sharing);
        return measures.cutWeight;
    }

    public int debts() {
        measures.take(graph, sharing);
        return measures.debtSum;
    }

    public int border() {
        int set = 0;
        for (int edge = 0; edge < graph.edges; edge++) {
            if (isCut(edge)) {
                set |= graph.endsOf(edge);
            }
        }
        return set;
    }

    public int heaviest() {
        measures.take(graph, sharing);
        return measures.heaviestPart();
    }

    public float cutShare() {
        if (graph.edgeSum == 0) {
            return 0.0f;
        }
        return (float) cut() / (float) graph.edgeSum;
    }

    public double imbalance() {
        if (graph.vertexSum == 0) {
            return 0.0;
        }
        measures.take(graph, sharing);
        int heaviestWeight = at(measures.partWeights, measures.heaviestPart());
        return (double) (heaviestWeight * graph.parts) / (double) graph.vertexSum;
    }

    // ---- groups, moves

    public int group(int group, int what) throws IndexOutOfBoundsException, IllegalArgumentException {
        requireGroup(group);
        measures.take(graph, sharing);
        switch (what) {
            case 0:
                return at(measures.groupSets, group);
            case 1:
                return at(measures.groupWeights, group);
            case 2:
                return at(measures.groupParts, group);
            case 3:
                return measures.pullOfAll(group);
            default:
                throw new IllegalArgumentException("a group has the numbers 0 to 3");
        }
    }

    public int groupOf(int vertex) throws IndexOutOfBoundsException {
        requireVertex(vertex);
        return at(sharing.groupRows, sharing.groupRow() + vertex);
    }

    public int whyNotShrink() {
        if (sharing.level >= TOP_LEVEL) {
            return 1;
        }
        findPairs();
        return pairs.hasMates ? 0 : 2;
    }

    private void findPairs() {
        measures.take(graph, sharing);
        pairs.join(graph, sharing);
        pairs.findMates(measures);
    }

    public int mate(int group) throws IndexOutOfBoundsException {
        requireGroup(group);
        findPairs();
        return at(pairs.mates, group);
    }

    public int gain(int group, int part) throws IndexOutOfBoundsException {
        requireGroup(group);
        requirePart(part);
        measures.take(graph, sharing);
        return measures.gainOf(group, part);
    }

    public int whyNotMove(int group, int part) throws IndexOutOfBoundsException {
        requireGroup(group);
        requirePart(part);
        measures.take(graph, sharing);
        return measures.reasonAgainst(group, part);
    }

    public int debtsIf(int group, int part) throws IndexOutOfBoundsException {
        requireGroup(group);
        requirePart(part);
        measures.take(graph, sharing);
        return measures.debtsWith(group, part);
    }

    public int nextStep() {
        measures.take(graph, sharing);
        return measures.chosenStep();
    }

    public int bestDebts() {
        if (!hasFewGroups()) {
            return NONE;
        }
        searchBest();
        return best.leastDebts;
    }

    public int bestCut() {
        if (!hasFewGroups()) {
            return NONE;
        }
        searchBest();
        return best.leastCut;
    }

    private boolean hasFewGroups() {
        return sharing.groupCount() <= MOST_BEST_GROUPS;
    }

    private void searchBest() {
        measures.take(graph, sharing);
        pairs.join(graph, sharing);
        best.search(measures, pairs);
    }

    public int stepsToEnd(int limit) throws IllegalArgumentException {
        requireTriedSteps(limit);
        int made = trySteps(limit);
        measures.take(graph, triedSharing);
        return measures.chosenStep() == NONE ? made : NONE;
    }

    public int cutBehind(int steps) throws IllegalArgumentException {
        requireTriedSteps(steps);
        trySteps(steps);
        measures.take(graph, triedSharing);
        return measures.cutWeight;
    }

    private void requireTriedSteps(int count) {
        if (count < 0 || count > MOST_TRIED_STEPS) {
            throw new IllegalArgumentException("0 to 200 steps can be tried");
        }
    }

    private int trySteps(int most) {
        triedSharing.copyFrom(sharing);
        return makeSteps(triedSharing, most);
    }

    // ---- events

    public int events() {
        return sharing.noted;
    }

    public int event(int i, int what) throws IndexOutOfBoundsException, IllegalArgumentException {
        if (i < 0 || i >= sharing.noted) {
            throw new IndexOutOfBoundsException("no such event");
        }
        if (what < 0 || what >= EVENT_NUMBERS) {
            throw new IllegalArgumentException("an event has the numbers 0 to 3");
        }
        return at(sharing.eventRows, i * EVENT_NUMBERS + what);
    }

    // ---- changes

    public int shrink() throws IllegalStateException {
        if (whyNotShrink() != 0) {
            throw new IllegalStateException("there is a reason against shrinking");
        }
        history.keep(sharing);
        mergeGroups();
        return sharing.groupCount();
    }

    private void mergeGroups() {
        findPairs();
        pairs.numberMerged(measures);
        sharing.raiseLevel(graph.vertices, pairs);
    }

    public int grow() throws IllegalStateException {
        if (sharing.level == 0) {
            throw new IllegalStateException("the level is 0");
        }
        history.keep(sharing);
        sharing.level--;
        return sharing.groupCount();
    }

    public int move(int group, int part) throws IndexOutOfBoundsException, IllegalStateException {
        if (whyNotMove(group, part) != 0) {
            throw new IllegalStateException("there is a reason against the move");
        }
        history.keep(sharing);
        takeTo(group, part);
        return cut();
    }

    private void takeTo(int group, int part) {
        measures.take(graph, sharing);
        transfer(sharing, group, part);
    }

    /** The measures must be those of the target. */
    private void transfer(Sharing target, int group, int part) {
        int before = at(measures.groupParts, group);
        target.note(group, before, part, measures.cutWeight - measures.gainOf(group, part));
        target.place(at(measures.groupSets, group), part);
    }

    public int step() {
        if (nextStep() == NONE) {
            return NONE;
        }
        history.keep(sharing);
        makeSteps(sharing, 1);
        return cut();
    }

    private int makeSteps(Sharing target, int most) {
        for (int made = 0; made < most; made++) {
            measures.take(graph, target);
            int chosen = measures.chosenStep();
            if (chosen == NONE) {
                return made;
            }
            transfer(target, chosen / STEP_BASE, chosen % STEP_BASE);
        }
        return most;
    }

    public int steps(int most) throws IllegalArgumentException {
        if (!isStepCount(most)) {
            throw new IllegalArgumentException("1 to 99 steps can be made");
        }
        history.keep(sharing);
        return makeSteps(sharing, most);
    }

    private boolean isStepCount(int count) {
        return count >= 1 && count <= MOST_STEPS;
    }

    public int placeBest() throws IllegalStateException {
        if (!hasFewGroups()) {
            throw new IllegalStateException("there are more than 7 groups");
        }
        history.keep(sharing);
        searchBest();
        return takeBest();
    }

    private int takeBest() {
        int changed = 0;
        int groups = sharing.groupCount();
        for (int group = 0; group < groups; group++) {
            int part = at(best.chosen, group);
            // The search has measured this sharing, and the move of one group leaves the parts of the others.
            if (at(measures.groupParts, group) != part) {
                takeTo(group, part);
                changed++;
            }
        }
        return changed;
    }

    public int placeApart(int vertex, int other)
        throws IndexOutOfBoundsException, IllegalArgumentException, IllegalStateException {
        requireVertex(vertex);
        requireVertex(other);
        if (vertex == other) {
            throw new IllegalArgumentException("the two vertices are the same");
        }
        if (!canTakeApart()) {
            throw new IllegalStateException("there are not 2 parts, or the level is not 0");
        }
        history.keep(sharing);
        return takeApart(vertex, other);
    }

    private boolean canTakeApart() {
        return graph.parts == 2 && sharing.level == 0;
    }

    private int takeApart(int vertex, int other) {
        flows.run(graph, vertex, other);
        int changed = 0;
        for (int i = 0; i < graph.vertices; i++) {
            int part = isIn(flows.reached, i) ? 0 : 1;
            // At level 0 a vertex and its group have the same number.
            if (at(sharing.parts, i) != part) {
                takeTo(i, part);
                changed++;
            }
        }
        return changed;
    }

    public int setCredit(int credit) throws IllegalArgumentException {
        if (!isAllowance(credit)) {
            throw new IllegalArgumentException("a credit is 0 to 99");
        }
        history.keep(sharing);
        int before = sharing.credit;
        sharing.credit = credit;
        return before;
    }

    private boolean isAllowance(int number) {
        return number >= 0 && number <= MOST_ALLOWANCE;
    }

    // ---- reports, undo, a saved state

    public int report() {
        int border = border();
        reportLength = 0;
        for (int part = 0; part < graph.parts; part++) {
            write('0' + part);
            write(':');
            for (int vertex = 0; vertex < graph.vertices; vertex++) {
                if (at(sharing.parts, vertex) == part) {
                    writeVertex(vertex, isIn(border, vertex));
                }
            }
            write('\n');
        }
        return reportLength;
    }

    private void writeVertex(int vertex, boolean isInBorder) {
        write(' ');
        long name = graph.nameOf(vertex);
        for (int place = MOST_LETTERS - 1; place >= 0; place--) {
            int letter = Tokens.letterAt(name, place);
            if (letter != 0) {
                write(letter);
            }
        }
        if (isInBorder) {
            write('+');
        }
    }

    private void write(int oneByte) {
        put(reportBytes, reportLength, oneByte);
        reportLength++;
    }

    public int reportByte(int i) throws IndexOutOfBoundsException {
        if (i < 0 || i >= reportLength) {
            throw new IndexOutOfBoundsException("no such byte of a report");
        }
        return at(reportBytes, i);
    }

    public int undo() {
        return history.takeBack(sharing) ? history.count : NONE;
    }

    public int save() {
        savedGraph.copyFrom(graph);
        savedSharing.copyFrom(sharing);
        isSaved = true;
        return cut();
    }

    public int restore() throws IllegalStateException {
        if (!isSaved) {
            throw new IllegalStateException("nothing was saved");
        }
        graph.copyFrom(savedGraph);
        sharing.copyFrom(savedSharing);
        history.forget();
        return cut();
    }

    // ---- rows of numbers, sets

    private static int at(int[] row, int i) {
        return i >= 0 && i < row.length ? row[i] : 0;
    }

    private static void put(int[] row, int i, int number) {
        if (i >= 0 && i < row.length) {
            row[i] = number;
        }
    }

    private static void add(int[] row, int i, int number) {
        if (i >= 0 && i < row.length) {
            row[i] += number;
        }
    }

    private static void copy(int[] from, int[] to) {
        System.arraycopy(from, 0, to, 0, Math.min(from.length, to.length));
    }

    private static boolean isIn(int set, int number) {
        return ((set >>> number) & 1) != 0;
    }

    /** The buffer, which is cut into tokens, one after the other, and the error of the latest text or script. */
    private static final class Tokens {
        static final int END = 0;
        static final int WORD = 1;
        static final int NUMBER = 2;
        static final int SEMICOLON = 3;
        static final int OPEN = 4;
        static final int CLOSE = 5;
        static final int INVALID = 6;

        /** A word of 8 letters fits into a long with 5 bits a letter, 1 for an a. */
        private static final int LETTER_BITS = 5;
        private static final int BEFORE_A = 'a' - 1;

        final int[] bytes = new int[MOST_BYTES];
        int length;
        int end;
        int start;
        int behind;
        int kind;
        long word;
        int number;
        int depth;
        int errorCode;
        int errorPosition = NONE;
        int errorDepth = NONE;

        void append(int fourBytes) {
            for (int shift = 24; shift >= 0; shift -= 8) {
                put(bytes, length, (fourBytes >>> shift) & 255);
                length++;
            }
        }

        /** The buffer is empty from here on, but its bytes stay until the next ones are fed. */
        void begin() {
            end = length;
            length = 0;
            start = 0;
            behind = 0;
            kind = END;
            depth = 0;
            errorCode = 0;
            errorPosition = NONE;
            errorDepth = NONE;
        }

        void advance() {
            while (behind < end && isBlank(at(bytes, behind))) {
                behind++;
            }
            start = behind;
            if (behind >= end) {
                kind = END;
                return;
            }
            int first = at(bytes, behind);
            if (isLetter(first)) {
                takeWord();
            } else if (isDigit(first)) {
                takeNumber();
            } else {
                kind = signKind(first);
                behind++;
            }
        }

        private void takeWord() {
            word = 0;
            while (behind < end && isLetter(at(bytes, behind))) {
                word = withLetter(word, at(bytes, behind));
                behind++;
            }
            kind = behind - start <= MOST_LETTERS ? WORD : INVALID;
        }

        private void takeNumber() {
            number = 0;
            while (behind < end && isDigit(at(bytes, behind))) {
                number = number * 10 + at(bytes, behind) - '0';
                behind++;
            }
            kind = behind - start <= MOST_DIGITS ? NUMBER : INVALID;
        }

        private static int signKind(int sign) {
            switch (sign) {
                case ';':
                    return SEMICOLON;
                case '(':
                    return OPEN;
                case ')':
                    return CLOSE;
                default:
                    return INVALID;
            }
        }

        private static boolean isBlank(int sign) {
            return sign == ' ' || sign == '\n';
        }

        private static boolean isLetter(int sign) {
            return sign >= 'a' && sign <= 'z';
        }

        private static boolean isDigit(int sign) {
            return sign >= '0' && sign <= '9';
        }

        private static long withLetter(long word, int letter) {
            return (word << LETTER_BITS) | (letter - BEFORE_A);
        }

        /** Place 0 is that of the last letter; 0 stands where the word has no letter. */
        static int letterAt(long word, int place) {
            int code = (int) ((word >>> (place * LETTER_BITS)) & 31);
            return code == 0 ? 0 : code + BEFORE_A;
        }

        boolean isWord(String text) {
            long wanted = 0;
            for (int i = 0; i < text.length(); i++) {
                wanted = withLetter(wanted, text.charAt(i));
            }
            return kind == WORD && word == wanted;
        }

        boolean fail(int code) {
            errorCode = code;
            errorPosition = start;
            errorDepth = depth;
            return false;
        }

        boolean takes(int wanted) {
            advance();
            return kind == wanted || fail(WRONG_TOKEN);
        }

        boolean takesNumber(int least, int most) {
            advance();
            if (kind != NUMBER) {
                return fail(WRONG_TOKEN);
            }
            return (number >= least && number <= most) || fail(WRONG_NUMBER);
        }
    }

    /** Reads a text into a graph. */
    private static final class TextReader {
        private static final int PARTS_TOLD = 1;
        private static final int SLACK_TOLD = 2;
        private static final int CREDIT_TOLD = 4;

        int told;

        boolean read(Tokens tokens, Graph target) {
            target.clear();
            told = 0;
            for (int statements = 0; statements <= MOST_BYTES; statements++) {
                tokens.advance();
                if (tokens.kind == Tokens.END) {
                    return true;
                }
                if (!readStatement(tokens, target) || !tokens.takes(Tokens.SEMICOLON)) {
                    return false;
                }
            }
            return false;
        }

        private boolean readStatement(Tokens tokens, Graph target) {
            if (tokens.isWord("vertex")) {
                return readVertex(tokens, target);
            }
            if (tokens.isWord("edge")) {
                return readEdge(tokens, target);
            }
            if (tokens.isWord("parts")) {
                return readParts(tokens, target);
            }
            if (tokens.isWord("slack")) {
                return readSlack(tokens, target);
            }
            if (tokens.isWord("credit")) {
                return readCredit(tokens, target);
            }
            return tokens.fail(WRONG_TOKEN);
        }

        private boolean readVertex(Tokens tokens, Graph target) {
            if (target.vertices >= MOST_VERTICES) {
                return tokens.fail(TOO_MANY);
            }
            if (!tokens.takes(Tokens.WORD)) {
                return false;
            }
            long name = tokens.word;
            if (target.vertexNamed(name) != NONE) {
                return tokens.fail(WRONG_NAME);
            }
            if (!tokens.takesNumber(1, MOST_WEIGHT)) {
                return false;
            }
            target.addVertex(name, tokens.number);
            return true;
        }

        private boolean readEdge(Tokens tokens, Graph target) {
            if (target.edges >= MOST_EDGES) {
                return tokens.fail(TOO_MANY);
            }
            if (!tokens.takes(Tokens.WORD)) {
                return false;
            }
            int first = target.vertexNamed(tokens.word);
            if (first == NONE) {
                return tokens.fail(WRONG_NAME);
            }
            if (!tokens.takes(Tokens.WORD)) {
                return false;
            }
            int second = target.vertexNamed(tokens.word);
            if (second == NONE || second == first) {
                return tokens.fail(WRONG_NAME);
            }
            if (target.edgeOf(first, second) != NONE) {
                return tokens.fail(ONCE_TOO_OFTEN);
            }
            if (!tokens.takesNumber(1, MOST_WEIGHT)) {
                return false;
            }
            target.addEdge(first, second, tokens.number);
            return true;
        }

        private boolean readParts(Tokens tokens, Graph target) {
            if (!takesOnce(tokens, PARTS_TOLD) || !tokens.takesNumber(LEAST_PARTS, MOST_PARTS)) {
                return false;
            }
            target.parts = tokens.number;
            return true;
        }

        private boolean readSlack(Tokens tokens, Graph target) {
            if (!takesOnce(tokens, SLACK_TOLD) || !tokens.takesNumber(0, MOST_ALLOWANCE)) {
                return false;
            }
            target.slack = tokens.number;
            return true;
        }

        private boolean readCredit(Tokens tokens, Graph target) {
            if (!takesOnce(tokens, CREDIT_TOLD) || !tokens.takesNumber(0, MOST_ALLOWANCE)) {
                return false;
            }
            target.credit = tokens.number;
            return true;
        }

        private boolean takesOnce(Tokens tokens, int kind) {
            if ((told & kind) != 0) {
                return tokens.fail(ONCE_TOO_OFTEN);
            }
            told |= kind;
            return true;
        }
    }

    /** The commands of a script in a row; a repeat stands before, and a close behind, what it repeats. */
    private static final class Script {
        static final int SHRINK = 0;
        static final int GROW = 1;
        static final int MOVE = 2;
        static final int STEP = 3;
        static final int STEPS = 4;
        static final int BEST = 5;
        static final int APART = 6;
        static final int CREDIT = 7;
        static final int REPEAT = 8;
        static final int CLOSE = 9;

        final int[] kinds = new int[2 * MOST_COMMANDS];
        final int[] firsts = new int[2 * MOST_COMMANDS];
        final int[] seconds = new int[2 * MOST_COMMANDS];
        final int[] turnsLeft = new int[2 * MOST_COMMANDS];
        int size;
        int commands;

        void clear() {
            size = 0;
            commands = 0;
        }

        void addCommand(int kind, int first, int second) {
            commands++;
            append(kind, first, second);
        }

        void addClose(int repeat) {
            append(CLOSE, repeat, 0);
        }

        private void append(int kind, int first, int second) {
            put(kinds, size, kind);
            put(firsts, size, first);
            put(seconds, size, second);
            size++;
        }

        void beginRepeat(int repeat) {
            put(turnsLeft, repeat, at(firsts, repeat));
        }

        int behindClose(int close) {
            int repeat = at(firsts, close);
            add(turnsLeft, repeat, -1);
            return at(turnsLeft, repeat) > 0 ? repeat + 1 : close + 1;
        }
    }

    /** Reads a script into its row of commands. */
    private static final class ScriptReader {
        final int[] openRepeats = new int[MOST_REPEAT_DEPTH];

        boolean read(Tokens tokens, Script target, Graph graph) {
            target.clear();
            for (int taken = 0; taken <= MOST_BYTES; taken++) {
                tokens.advance();
                if (tokens.kind == Tokens.END) {
                    return tokens.depth == 0 || tokens.fail(WRONG_TOKEN);
                }
                boolean isClose = tokens.kind == Tokens.CLOSE;
                if (!(isClose ? readClose(tokens, target) : readCommand(tokens, target, graph))) {
                    return false;
                }
            }
            return false;
        }

        private boolean readClose(Tokens tokens, Script target) {
            if (tokens.depth == 0) {
                return tokens.fail(WRONG_TOKEN);
            }
            tokens.depth--;
            target.addClose(at(openRepeats, tokens.depth));
            return tokens.takes(Tokens.SEMICOLON);
        }

        private boolean readCommand(Tokens tokens, Script target, Graph graph) {
            int kind = kindOfWord(tokens);
            if (kind == NONE) {
                return tokens.fail(WRONG_TOKEN);
            }
            if (kind == Script.REPEAT && tokens.depth >= MOST_REPEAT_DEPTH) {
                return tokens.fail(ONCE_TOO_OFTEN);
            }
            if (target.commands >= MOST_COMMANDS) {
                return tokens.fail(TOO_MANY);
            }
            switch (kind) {
                case Script.REPEAT:
                    return readRepeat(tokens, target);
                case Script.MOVE:
                    return readMove(tokens, target) && tokens.takes(Tokens.SEMICOLON);
                case Script.STEPS:
                case Script.CREDIT:
                    return readNumbered(tokens, target, kind) && tokens.takes(Tokens.SEMICOLON);
                case Script.APART:
                    return readApart(tokens, target, graph) && tokens.takes(Tokens.SEMICOLON);
                default:
                    target.addCommand(kind, 0, 0);
                    return tokens.takes(Tokens.SEMICOLON);
            }
        }

        private int kindOfWord(Tokens tokens) {
            if (tokens.isWord("shrink")) {
                return Script.SHRINK;
            }
            if (tokens.isWord("grow")) {
                return Script.GROW;
            }
            if (tokens.isWord("move")) {
                return Script.MOVE;
            }
            if (tokens.isWord("step")) {
                return Script.STEP;
            }
            if (tokens.isWord("steps")) {
                return Script.STEPS;
            }
            if (tokens.isWord("best")) {
                return Script.BEST;
            }
            if (tokens.isWord("apart")) {
                return Script.APART;
            }
            if (tokens.isWord("credit")) {
                return Script.CREDIT;
            }
            return tokens.isWord("repeat") ? Script.REPEAT : NONE;
        }

        private boolean readRepeat(Tokens tokens, Script target) {
            if (!tokens.takesNumber(1, MOST_REPEATS)) {
                return false;
            }
            int turns = tokens.number;
            if (!tokens.takes(Tokens.OPEN)) {
                return false;
            }
            put(openRepeats, tokens.depth, target.size);
            tokens.depth++;
            target.addCommand(Script.REPEAT, turns, 0);
            return true;
        }

        private boolean readMove(Tokens tokens, Script target) {
            if (!tokens.takesNumber(0, MOST_NUMBER)) {
                return false;
            }
            int group = tokens.number;
            if (!tokens.takesNumber(0, MOST_NUMBER)) {
                return false;
            }
            target.addCommand(Script.MOVE, group, tokens.number);
            return true;
        }

        private boolean readNumbered(Tokens tokens, Script target, int kind) {
            if (!tokens.takesNumber(0, MOST_NUMBER)) {
                return false;
            }
            target.addCommand(kind, tokens.number, 0);
            return true;
        }

        private boolean readApart(Tokens tokens, Script target, Graph graph) {
            if (!takesVertex(tokens, graph)) {
                return false;
            }
            int first = graph.vertexNamed(tokens.word);
            if (!takesVertex(tokens, graph)) {
                return false;
            }
            target.addCommand(Script.APART, first, graph.vertexNamed(tokens.word));
            return true;
        }

        private boolean takesVertex(Tokens tokens, Graph graph) {
            tokens.advance();
            if (tokens.kind != Tokens.WORD) {
                return tokens.fail(WRONG_TOKEN);
            }
            return graph.vertexNamed(tokens.word) != NONE || tokens.fail(WRONG_NAME);
        }
    }

    /** What a text tells. */
    private static final class Graph {
        int vertices;
        int edges;
        int parts = LEAST_PARTS;
        int slack;
        int credit;
        int vertexSum;
        int edgeSum;
        final long[] names = new long[MOST_VERTICES];
        final int[] weights = new int[MOST_VERTICES];
        final int[] firsts = new int[MOST_EDGES];
        final int[] seconds = new int[MOST_EDGES];
        final int[] edgeWeights = new int[MOST_EDGES];

        void clear() {
            vertices = 0;
            edges = 0;
            parts = LEAST_PARTS;
            slack = 0;
            credit = 0;
            vertexSum = 0;
            edgeSum = 0;
        }

        void copyFrom(Graph other) {
            vertices = other.vertices;
            edges = other.edges;
            parts = other.parts;
            slack = other.slack;
            credit = other.credit;
            vertexSum = other.vertexSum;
            edgeSum = other.edgeSum;
            System.arraycopy(other.names, 0, names, 0, MOST_VERTICES);
            copy(other.weights, weights);
            copy(other.firsts, firsts);
            copy(other.seconds, seconds);
            copy(other.edgeWeights, edgeWeights);
        }

        void addVertex(long name, int weight) {
            if (vertices >= 0 && vertices < names.length) {
                names[vertices] = name;
                put(weights, vertices, weight);
                vertexSum += weight;
                vertices++;
            }
        }

        void addEdge(int first, int second, int weight) {
            put(firsts, edges, first);
            put(seconds, edges, second);
            put(edgeWeights, edges, weight);
            edgeSum += weight;
            edges++;
        }

        long nameOf(int vertex) {
            return vertex >= 0 && vertex < names.length ? names[vertex] : 0;
        }

        int vertexNamed(long name) {
            for (int vertex = 0; vertex < vertices; vertex++) {
                if (nameOf(vertex) == name) {
                    return vertex;
                }
            }
            return NONE;
        }

        int edgeOf(int vertex, int other) {
            if (vertex == other) {
                return NONE;
            }
            int both = (1 << vertex) | (1 << other);
            for (int edge = 0; edge < edges; edge++) {
                if (endsOf(edge) == both) {
                    return edge;
                }
            }
            return NONE;
        }

        int endsOf(int edge) {
            return (1 << at(firsts, edge)) | (1 << at(seconds, edge));
        }

        int limit() {
            return parts < 1 ? slack : (vertexSum + parts - 1) / parts + slack;
        }

        /** The vertices that come together with those of a set by edges within the allowed vertices. */
        private int spread(int set, int allowed) {
            int reached = set;
            for (int round = 0; round < MOST_VERTICES; round++) {
                int before = reached;
                for (int edge = 0; edge < edges; edge++) {
                    int ends = endsOf(edge);
                    if ((ends & ~allowed) == 0 && (ends & reached) != 0) {
                        reached |= ends;
                    }
                }
                if (reached == before) {
                    return reached;
                }
            }
            return reached;
        }

        int pieces(int set) {
            int left = set;
            int count = 0;
            for (int vertex = 0; vertex < vertices; vertex++) {
                if (isIn(left, vertex)) {
                    left &= ~spread(1 << vertex, set);
                    count++;
                }
            }
            return count;
        }

        int largestPiece() {
            int all = (1 << vertices) - 1;
            int largest = 0;
            for (int vertex = 0; vertex < vertices; vertex++) {
                largest = Math.max(largest, Integer.bitCount(spread(1 << vertex, all)));
            }
            return largest;
        }
    }

    /** What changes: the part of each vertex, the groups of each level, the credit and the events. */
    private static final class Sharing {
        int level;
        int credit;
        int noted;
        final int[] parts = new int[MOST_VERTICES];
        final int[] groupCounts = new int[TOP_LEVEL + 1];
        /** For each level a row with the group of each vertex. */
        final int[] groupRows = new int[(TOP_LEVEL + 1) * MOST_VERTICES];
        /** The latest event stands first. */
        final int[] eventRows = new int[MOST_EVENTS * EVENT_NUMBERS];

        void start(Graph graph) {
            level = 0;
            credit = graph.credit;
            noted = 0;
            Arrays.fill(parts, 0);
            put(groupCounts, 0, graph.vertices);
            for (int vertex = 0; vertex < graph.vertices; vertex++) {
                put(groupRows, vertex, vertex);
            }
        }

        void copyFrom(Sharing other) {
            level = other.level;
            credit = other.credit;
            noted = other.noted;
            copy(other.parts, parts);
            copy(other.groupCounts, groupCounts);
            copy(other.groupRows, groupRows);
            copy(other.eventRows, eventRows);
        }

        int groupCount() {
            return at(groupCounts, level);
        }

        /** Where the row of the present level begins. */
        int groupRow() {
            return level * MOST_VERTICES;
        }

        void raiseLevel(int vertices, Pairs pairs) {
            int row = groupRow();
            for (int vertex = 0; vertex < vertices; vertex++) {
                int group = at(groupRows, row + vertex);
                put(groupRows, row + MOST_VERTICES + vertex, at(pairs.mergedNumbers, group));
            }
            level++;
            put(groupCounts, level, pairs.mergedCount);
        }

        void place(int set, int part) {
            for (int vertex = 0; vertex < MOST_VERTICES; vertex++) {
                if (isIn(set, vertex)) {
                    put(parts, vertex, part);
                }
            }
        }

        void note(int group, int before, int behind, int cutWeight) {
            System.arraycopy(eventRows, 0, eventRows, EVENT_NUMBERS, eventRows.length - EVENT_NUMBERS);
            put(eventRows, 0, group);
            put(eventRows, 1, before);
            put(eventRows, 2, behind);
            put(eventRows, 3, cutWeight);
            noted = Math.min(noted + 1, MOST_EVENTS);
        }
    }

    /** The sharings before the latest calls that can be undone, in a ring. */
    private static final class History {
        final Sharing[] kept = new Sharing[MOST_UNDO];
        int newest;
        int count;

        History() {
            for (int i = 0; i < kept.length; i++) {
                kept[i] = new Sharing();
            }
        }

        void forget() {
            count = 0;
        }

        void keep(Sharing sharing) {
            newest = (newest + 1) % MOST_UNDO;
            Sharing oldest = entry(newest);
            if (oldest != null) {
                oldest.copyFrom(sharing);
                count = Math.min(count + 1, MOST_UNDO);
            }
        }

        boolean takeBack(Sharing sharing) {
            Sharing latest = entry(newest);
            if (count == 0 || latest == null) {
                return false;
            }
            sharing.copyFrom(latest);
            newest = (newest + MOST_UNDO - 1) % MOST_UNDO;
            count--;
            return true;
        }

        private Sharing entry(int i) {
            return i >= 0 && i < kept.length ? kept[i] : null;
        }
    }

    /** What can be counted of a sharing: weights, debts, the cut and what pulls each group to each part. */
    private static final class Measures {
        int groups;
        int parts;
        int limit;
        int credit;
        int debtSum;
        int cutWeight;
        final int[] groupSets = new int[MOST_VERTICES];
        final int[] groupWeights = new int[MOST_VERTICES];
        final int[] groupParts = new int[MOST_VERTICES];
        final int[] partSets = new int[MOST_PARTS];
        final int[] partWeights = new int[MOST_PARTS];
        /** For each group a row: by how much it is joined to the other groups in each part. */
        final int[] pulls = new int[MOST_VERTICES * MOST_PARTS];

        void take(Graph graph, Sharing sharing) {
            groups = sharing.groupCount();
            parts = graph.parts;
            limit = graph.limit();
            credit = sharing.credit;
            takeVertices(graph, sharing);
            takeEdges(graph, sharing);
            debtSum = 0;
            for (int part = 0; part < parts; part++) {
                debtSum += debtAt(at(partWeights, part));
            }
        }

        private void takeVertices(Graph graph, Sharing sharing) {
            Arrays.fill(groupSets, 0);
            Arrays.fill(groupWeights, 0);
            Arrays.fill(partSets, 0);
            Arrays.fill(partWeights, 0);
            int row = sharing.groupRow();
            for (int vertex = 0; vertex < graph.vertices; vertex++) {
                int group = at(sharing.groupRows, row + vertex);
                int part = at(sharing.parts, vertex);
                add(groupSets, group, 1 << vertex);
                add(groupWeights, group, at(graph.weights, vertex));
                put(groupParts, group, part);
                add(partSets, part, 1 << vertex);
                add(partWeights, part, at(graph.weights, vertex));
            }
        }

        private void takeEdges(Graph graph, Sharing sharing) {
            Arrays.fill(pulls, 0);
            cutWeight = 0;
            int row = sharing.groupRow();
            for (int edge = 0; edge < graph.edges; edge++) {
                int group = at(sharing.groupRows, row + at(graph.firsts, edge));
                int other = at(sharing.groupRows, row + at(graph.seconds, edge));
                if (group != other) {
                    int weight = at(graph.edgeWeights, edge);
                    add(pulls, group * MOST_PARTS + at(groupParts, other), weight);
                    add(pulls, other * MOST_PARTS + at(groupParts, group), weight);
                    cutWeight += at(groupParts, group) == at(groupParts, other) ? 0 : weight;
                }
            }
        }

        int debtAt(int weight) {
            return weight > limit ? weight - limit : 0;
        }

        int heaviestPart() {
            int heaviest = 0;
            for (int part = 1; part < parts; part++) {
                if (at(partWeights, part) > at(partWeights, heaviest)) {
                    heaviest = part;
                }
            }
            return heaviest;
        }

        int pullOfAll(int group) {
            int sum = 0;
            for (int part = 0; part < parts; part++) {
                sum += at(pulls, group * MOST_PARTS + part);
            }
            return sum;
        }

        int gainOf(int group, int part) {
            int row = group * MOST_PARTS;
            return at(pulls, row + part) - at(pulls, row + at(groupParts, group));
        }

        int debtsWith(int group, int part) {
            int before = at(groupParts, group);
            if (before == part) {
                return debtSum;
            }
            int weight = at(groupWeights, group);
            int from = at(partWeights, before);
            int to = at(partWeights, part);
            return debtSum - debtAt(from) - debtAt(to) + debtAt(from - weight) + debtAt(to + weight);
        }

        int reasonAgainst(int group, int part) {
            if (at(groupParts, group) == part) {
                return 1;
            }
            return isTooMuch(debtsWith(group, part)) ? 2 : 0;
        }

        private boolean isTooMuch(int debts) {
            return debts > credit && debts > debtSum;
        }

        int chosenStep() {
            int lowering = debtSum > 0 ? greatestGain(true) : NONE;
            return lowering != NONE ? lowering : greatestGain(false);
        }

        private int greatestGain(boolean lowersDebts) {
            int chosen = NONE;
            int chosenGain = 0;
            int chosenDebts = 0;
            for (int group = 0; group < groups; group++) {
                for (int part = 0; part < parts; part++) {
                    int gain = gainOf(group, part);
                    int debts = debtsWith(group, part);
                    boolean isOpen = lowersDebts ? debts < debtSum : gain > 0 && !isTooMuch(debts);
                    boolean isBetter = chosen == NONE || gain > chosenGain
                        || (gain == chosenGain && debts < chosenDebts);
                    if (isOpen && isBetter) {
                        chosen = group * STEP_BASE + part;
                        chosenGain = gain;
                        chosenDebts = debts;
                    }
                }
            }
            return chosen;
        }
    }

    /** What joins the groups by twos, and which ones would be merged. */
    private static final class Pairs {
        final int[] joins = new int[MOST_VERTICES * MOST_VERTICES];
        final int[] mates = new int[MOST_VERTICES];
        final int[] mergedNumbers = new int[MOST_VERTICES];
        int mergedCount;
        boolean hasMates;

        void join(Graph graph, Sharing sharing) {
            Arrays.fill(joins, 0);
            int row = sharing.groupRow();
            for (int edge = 0; edge < graph.edges; edge++) {
                int group = at(sharing.groupRows, row + at(graph.firsts, edge));
                int other = at(sharing.groupRows, row + at(graph.seconds, edge));
                add(joins, group * MOST_VERTICES + other, at(graph.edgeWeights, edge));
                add(joins, other * MOST_VERTICES + group, at(graph.edgeWeights, edge));
            }
        }

        void findMates(Measures measures) {
            Arrays.fill(mates, NONE);
            hasMates = false;
            for (int group = 0; group < measures.groups; group++) {
                int other = at(mates, group) == NONE ? mateBehind(group, measures) : NONE;
                if (other != NONE) {
                    put(mates, group, other);
                    put(mates, other, group);
                    hasMates = true;
                }
            }
        }

        private int mateBehind(int group, Measures measures) {
            int chosen = NONE;
            int most = 0;
            for (int other = group + 1; other < measures.groups; other++) {
                int weight = at(measures.groupWeights, group) + at(measures.groupWeights, other);
                if (at(mates, other) == NONE
                    && at(measures.groupParts, other) == at(measures.groupParts, group)
                    && weight <= measures.limit && at(joins, group * MOST_VERTICES + other) > most) {
                    chosen = other;
                    most = at(joins, group * MOST_VERTICES + other);
                }
            }
            return chosen;
        }

        void numberMerged(Measures measures) {
            mergedCount = 0;
            for (int group = 0; group < measures.groups; group++) {
                int other = at(mates, group);
                if (other != NONE && other < group) {
                    put(mergedNumbers, group, at(mergedNumbers, other));
                } else {
                    put(mergedNumbers, group, mergedCount);
                    mergedCount++;
                }
            }
        }
    }

    /** The best sharing of a few groups. */
    private static final class Best {
        final int[] tried = new int[MOST_BEST_GROUPS];
        final int[] chosen = new int[MOST_BEST_GROUPS];
        final int[] partWeights = new int[MOST_PARTS];
        int leastDebts;
        int leastCut;

        void search(Measures measures, Pairs pairs) {
            Arrays.fill(tried, 0);
            leastDebts = ABOVE_ALL;
            leastCut = ABOVE_ALL;
            boolean isMore = true;
            for (int turn = 0; isMore && turn < MOST_TURNS; turn++) {
                int debts = triedDebts(measures);
                int cutWeight = debts > leastDebts ? ABOVE_ALL : triedCut(measures.groups, pairs);
                if (debts < leastDebts || cutWeight < leastCut) {
                    leastDebts = debts;
                    leastCut = cutWeight;
                    copy(tried, chosen);
                }
                isMore = advance(measures);
            }
        }

        private int triedDebts(Measures measures) {
            Arrays.fill(partWeights, 0);
            for (int group = 0; group < measures.groups; group++) {
                add(partWeights, at(tried, group), at(measures.groupWeights, group));
            }
            int sum = 0;
            for (int part = 0; part < measures.parts; part++) {
                sum += measures.debtAt(at(partWeights, part));
            }
            return sum;
        }

        private int triedCut(int groups, Pairs pairs) {
            int sum = 0;
            for (int group = 0; group < groups; group++) {
                for (int other = group + 1; other < groups; other++) {
                    if (at(tried, group) != at(tried, other)) {
                        sum += at(pairs.joins, group * MOST_VERTICES + other);
                    }
                }
            }
            return sum;
        }

        /**
         * Goes to the next sharing in order. All parts have the same limit, so of the sharings that differ by the
         * parts' numbers only the first one is tried: in it a part is used only if all lower ones are used before.
         */
        private boolean advance(Measures measures) {
            for (int group = measures.groups - 1; group > 0; group--) {
                int last = Math.min(highestBefore(group) + 1, measures.parts - 1);
                if (at(tried, group) < last) {
                    add(tried, group, 1);
                    return true;
                }
                put(tried, group, 0);
            }
            return false;
        }

        private int highestBefore(int group) {
            int highest = 0;
            for (int i = 0; i < group; i++) {
                highest = Math.max(highest, at(tried, i));
            }
            return highest;
        }
    }

    /** A greatest flow between two vertices, which weighs as much as a least cut between them. */
    private static final class Flows {
        final int[] rooms = new int[MOST_VERTICES * MOST_VERTICES];
        final int[] waiting = new int[MOST_VERTICES];
        final int[] before = new int[MOST_VERTICES];
        int vertices;
        int total;
        /** The vertices to which there is still a way: behind a run, the side of the first vertex. */
        int reached;

        void run(Graph graph, int from, int to) {
            fillRooms(graph);
            total = 0;
            for (int way = 0; way < MOST_TURNS && findWay(from, to); way++) {
                total += useWay(from, to);
            }
        }

        private void fillRooms(Graph graph) {
            vertices = graph.vertices;
            Arrays.fill(rooms, 0);
            for (int edge = 0; edge < graph.edges; edge++) {
                int first = at(graph.firsts, edge);
                int second = at(graph.seconds, edge);
                add(rooms, first * MOST_VERTICES + second, at(graph.edgeWeights, edge));
                add(rooms, second * MOST_VERTICES + first, at(graph.edgeWeights, edge));
            }
        }

        private boolean findWay(int from, int to) {
            reached = 1 << from;
            put(waiting, 0, from);
            int count = 1;
            for (int i = 0; i < count && i < MOST_VERTICES; i++) {
                int vertex = at(waiting, i);
                for (int next = 0; next < vertices; next++) {
                    if (!isIn(reached, next) && at(rooms, vertex * MOST_VERTICES + next) > 0) {
                        reached |= 1 << next;
                        put(before, next, vertex);
                        put(waiting, count, next);
                        count++;
                    }
                }
            }
            return isIn(reached, to);
        }

        private int useWay(int from, int to) {
            int room = ABOVE_ALL;
            int vertex = to;
            for (int i = 0; i < MOST_VERTICES && vertex != from; i++) {
                room = Math.min(room, at(rooms, at(before, vertex) * MOST_VERTICES + vertex));
                vertex = at(before, vertex);
            }
            vertex = to;
            for (int i = 0; i < MOST_VERTICES && vertex != from; i++) {
                add(rooms, at(before, vertex) * MOST_VERTICES + vertex, -room);
                add(rooms, vertex * MOST_VERTICES + at(before, vertex), room);
                vertex = at(before, vertex);
            }
            return room;
        }
    }
}
