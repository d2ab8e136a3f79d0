import java.util.ArrayList;
import java.util.Arrays;
import java.util.LinkedHashSet;
import java.util.List;
import java.util.Set;
import java.util.TreeSet;
import java.util.regex.Matcher;
import java.util.regex.Pattern;

/** The document said again in the slowest and plainest way, to compare ShareGraph with. */
final class Model {
    static final int NONE = -1;

    private static final class Fault extends RuntimeException {
        final int code;
        final int position;
        final int depth;

        Fault(int code, int position, int depth) {
            this.code = code;
            this.position = position;
            this.depth = depth;
        }
    }

    private record Token(String text, int position) {
        boolean isWord() {
            return text != null && text.matches("[a-z]{1,8}");
        }

        boolean isNumber() {
            return text != null && text.matches("[0-9]{1,3}");
        }

        boolean is(String wanted) {
            return wanted.equals(text);
        }
    }

    private record Edge(int first, int second, int weight) {
    }

    private record Event(int group, int before, int behind, int cut) {
        int number(int what) {
            return new int[] {group, before, behind, cut}[what];
        }
    }

    private static final class Command {
        String kind;
        int first;
        int second;
        List<Command> body = new ArrayList<>();
    }

    private static final class Content {
        List<String> names = new ArrayList<>();
        List<Integer> weights = new ArrayList<>();
        List<Edge> edges = new ArrayList<>();
        int parts = 2;
        int slack = 0;
        int firstCredit = 0;

        int join(int v, int w) {
            for (Edge e : edges) {
                if ((e.first == v && e.second == w) || (e.first == w && e.second == v)) {
                    return e.weight;
                }
            }
            return 0;
        }
    }

    /** Never changed: each change makes a new one. */
    private record State(List<Integer> part, List<List<Set<Integer>>> levels, int credit, List<Event> events) {
        List<Set<Integer>> groups() {
            return levels.get(levels.size() - 1);
        }

        State withCredit(int c) {
            return new State(part, levels, c, events);
        }

        State withLevels(List<List<Set<Integer>>> l) {
            return new State(part, l, credit, events);
        }
    }

    private List<Integer> buffer = new ArrayList<>();
    private Fault fault = null;
    private Content content = new Content();
    private State state = startState(content);
    private List<State> undoable = new ArrayList<>();
    private Content savedContent = null;
    private State savedState = null;
    private String report = "";
    private List<Token> tokens;
    private int next;
    private int depth;
    private int commandsRead;
    private int commandsDone;

    private static State startState(Content c) {
        List<Integer> part = new ArrayList<>();
        List<Set<Integer>> groups = new ArrayList<>();
        for (int v = 0; v < c.names.size(); v++) {
            part.add(0);
            groups.add(new TreeSet<>(List.of(v)));
        }
        return new State(part, List.of(groups), c.firstCredit, List.of());
    }

    // ---- texts

    public int feed(int a, int b, int c, int d, int e) {
        if (buffer.size() + 20 > 800) {
            throw new IllegalStateException();
        }
        for (int word : new int[] {a, b, c, d, e}) {
            buffer.add(word >> 24 & 0xff);
            buffer.add(word >> 16 & 0xff);
            buffer.add(word >> 8 & 0xff);
            buffer.add(word & 0xff);
        }
        return buffer.size();
    }

    public int truncate(int n) {
        if (n < 0 || n > buffer.size()) {
            throw new IllegalArgumentException();
        }
        buffer = new ArrayList<>(buffer.subList(0, n));
        return n;
    }

    private void tokenize() {
        StringBuilder text = new StringBuilder();
        for (int b : buffer) {
            text.append((char) b);
        }
        tokens = new ArrayList<>();
        Matcher m = Pattern.compile("[a-z]+|[0-9]+|[^ \n]", Pattern.DOTALL).matcher(text);
        while (m.find()) {
            tokens.add(new Token(m.group(), m.start()));
        }
        tokens.add(new Token(null, text.length()));
        next = 0;
        depth = 0;
        commandsRead = 0;
        buffer = new ArrayList<>();
        fault = null;
    }

    private Token peek() {
        return tokens.get(next);
    }

    private Fault at(Token t, int code) {
        return new Fault(code, t.position, depth);
    }

    private String word() {
        Token t = tokens.get(next++);
        if (!t.isWord()) {
            throw at(t, 1);
        }
        return t.text;
    }

    private void sign(String s) {
        Token t = tokens.get(next++);
        if (!t.is(s)) {
            throw at(t, 1);
        }
    }

    private int number(int least, int most) {
        Token t = tokens.get(next++);
        if (!t.isNumber()) {
            throw at(t, 1);
        }
        int n = Integer.parseInt(t.text);
        if (n < least || n > most) {
            throw at(t, 2);
        }
        return n;
    }

    public int readText() {
        tokenize();
        try {
            content = parseText();
        } catch (Fault f) {
            fault = f;
            throw new IllegalArgumentException();
        }
        state = startState(content);
        undoable = new ArrayList<>();
        return content.names.size();
    }

    private Content parseText() {
        Content c = new Content();
        Set<String> once = new LinkedHashSet<>();
        while (peek().text != null) {
            Token first = peek();
            String kind = word();
            if (kind.equals("vertex")) {
                if (c.names.size() == 14) {
                    throw at(first, 6);
                }
                Token t = peek();
                String name = word();
                if (c.names.contains(name)) {
                    throw at(t, 3);
                }
                c.weights.add(number(1, 99));
                c.names.add(name);
            } else if (kind.equals("edge")) {
                if (c.edges.size() == 40) {
                    throw at(first, 6);
                }
                parseEdge(c);
            } else if (List.of("parts", "slack", "credit").contains(kind)) {
                if (!once.add(kind)) {
                    throw at(first, 4);
                }
                if (kind.equals("parts")) {
                    c.parts = number(2, 4);
                } else if (kind.equals("slack")) {
                    c.slack = number(0, 99);
                } else {
                    c.firstCredit = number(0, 99);
                }
            } else {
                throw at(first, 1);
            }
            sign(";");
        }
        return c;
    }

    private void parseEdge(Content c) {
        Token t = peek();
        int v = c.names.indexOf(word());
        if (v < 0) {
            throw at(t, 3);
        }
        t = peek();
        int w = c.names.indexOf(word());
        if (w < 0 || w == v) {
            throw at(t, 3);
        }
        if (c.join(v, w) > 0) {
            throw at(t, 4);
        }
        c.edges.add(new Edge(v, w, number(1, 99)));
    }

    public int runScript() {
        tokenize();
        List<Command> script;
        try {
            script = parseScript();
        } catch (Fault f) {
            fault = f;
            throw new IllegalArgumentException();
        }
        State before = state;
        List<State> undoableBefore = undoable;
        undoable = new ArrayList<>();
        commandsDone = 0;
        runAll(script);
        undoable = undoableBefore;
        remember(before);
        return commandsDone;
    }

    private List<Command> parseScript() {
        List<Command> script = new ArrayList<>();
        while (!(depth == 0 && peek().text == null) && !(depth > 0 && peek().is(")"))) {
            script.add(parseCommand());
            sign(";");
        }
        return script;
    }

    private Command parseCommand() {
        Token first = peek();
        Command c = new Command();
        c.kind = word();
        if (!List.of("shrink", "grow", "move", "step", "steps", "best", "apart", "credit", "repeat")
            .contains(c.kind)) {
            throw at(first, 1);
        }
        if (c.kind.equals("repeat") && depth == 2) {
            throw at(first, 4);
        }
        commandsRead++;
        if (commandsRead > 30) {
            throw at(first, 6);
        }
        if (c.kind.equals("move")) {
            c.first = number(0, 999);
            c.second = number(0, 999);
        } else if (c.kind.equals("steps") || c.kind.equals("credit")) {
            c.first = number(0, 999);
        } else if (c.kind.equals("apart")) {
            c.first = parseName();
            c.second = parseName();
        } else if (c.kind.equals("repeat")) {
            c.first = number(1, 20);
            sign("(");
            depth++;
            c.body = parseScript();
            depth--;
            next++;
        }
        return c;
    }

    private int parseName() {
        Token t = peek();
        int v = content.names.indexOf(word());
        if (v < 0) {
            throw at(t, 3);
        }
        return v;
    }

    /** False when the script has ended. */
    private boolean runAll(List<Command> script) {
        for (Command c : script) {
            if (c.kind.equals("repeat")) {
                for (int i = 0; i < c.first; i++) {
                    if (!runAll(c.body)) {
                        return false;
                    }
                }
            } else {
                if (commandsDone == 40) {
                    return false;
                }
                try {
                    if (runOne(c) == NONE) {
                        return false;
                    }
                } catch (RuntimeException e) {
                    return false;
                }
                commandsDone++;
            }
        }
        return true;
    }

    private int runOne(Command c) {
        switch (c.kind) {
            case "shrink": return shrink();
            case "grow": return grow();
            case "move": return move(c.first, c.second);
            case "step": return step();
            case "steps": return steps(c.first);
            case "best": return placeBest();
            case "apart": return placeApart(c.first, c.second);
            default: return setCredit(c.first);
        }
    }

    public int error(int what) {
        if (what < 0 || what > 2) {
            throw new IllegalArgumentException();
        }
        if (fault == null) {
            return what == 0 ? 0 : NONE;
        }
        return new int[] {fault.code, fault.position, fault.depth}[what];
    }

    // ---- the graph

    private int vertices() {
        return content.names.size();
    }

    private int sumOfWeights() {
        return content.weights.stream().mapToInt(w -> w).sum();
    }

    private int limit() {
        return (int) Math.ceil(sumOfWeights() / (double) content.parts) + content.slack;
    }

    private static void check(int i, int count) {
        if (i < 0 || i >= count) {
            throw new IndexOutOfBoundsException();
        }
    }

    private void checkVertices(int v, int w) {
        check(v, vertices());
        check(w, vertices());
    }

    private void checkMove(int g, int p) {
        check(g, state.groups().size());
        check(p, content.parts);
    }

    private static void checkWhat(int what, int count) {
        if (what < 0 || what >= count) {
            throw new IllegalArgumentException();
        }
    }

    public int setting(int what) {
        checkWhat(what, 12);
        switch (what) {
            case 0: return vertices();
            case 1: return content.edges.size();
            case 2: return content.parts;
            case 3: return content.slack;
            case 4: return state.credit;
            case 5: return limit();
            case 6: return sumOfWeights();
            case 7: return content.edges.stream().mapToInt(Edge::weight).sum();
            case 8: return state.levels.size() - 1;
            case 9: return state.groups().size();
            case 10: return undoable.size();
            default:
                return pieces(allVertices()).stream().mapToInt(Set::size).max().orElse(0);
        }
    }

    private Set<Integer> allVertices() {
        Set<Integer> all = new TreeSet<>();
        for (int v = 0; v < vertices(); v++) {
            all.add(v);
        }
        return all;
    }

    private List<Set<Integer>> pieces(Set<Integer> set) {
        List<Set<Integer>> pieces = new ArrayList<>();
        for (int v : set) {
            Set<Integer> merged = new TreeSet<>(List.of(v));
            List<Set<Integer>> rest = new ArrayList<>();
            for (Set<Integer> piece : pieces) {
                if (piece.stream().anyMatch(w -> content.join(v, w) > 0)) {
                    merged.addAll(piece);
                } else {
                    rest.add(piece);
                }
            }
            rest.add(merged);
            pieces = rest;
        }
        return pieces;
    }

    public int weight(int v) {
        check(v, vertices());
        return content.weights.get(v);
    }

    public int edge(int e, int what) {
        check(e, content.edges.size());
        checkWhat(what, 4);
        Edge edge = content.edges.get(e);
        switch (what) {
            case 0: return edge.first;
            case 1: return edge.second;
            case 2: return edge.weight;
            default: return isCut(edge, state.part) ? 1 : 0;
        }
    }

    private boolean isCut(Edge e, List<Integer> part) {
        return !part.get(e.first).equals(part.get(e.second));
    }

    public int between(int v, int w) {
        checkVertices(v, w);
        return content.join(v, w);
    }

    private int leaving(int set) {
        int sum = 0;
        for (Edge e : content.edges) {
            sum += (set >> e.first & 1) != (set >> e.second & 1) ? e.weight : 0;
        }
        return sum;
    }

    public int flow(int v, int w) {
        checkVertices(v, w);
        if (v == w) {
            return 0;
        }
        int least = Integer.MAX_VALUE;
        for (int set = 0; set < 1 << vertices(); set++) {
            if ((set >> v & 1) == 1 && (set >> w & 1) == 0) {
                least = Math.min(least, leaving(set));
            }
        }
        return least;
    }

    public int side(int v, int w) {
        checkVertices(v, w);
        if (v == w) {
            return 0;
        }
        int least = flow(v, w);
        int common = -1;
        for (int set = 0; set < 1 << vertices(); set++) {
            if ((set >> v & 1) == 1 && (set >> w & 1) == 0 && leaving(set) == least) {
                common &= set;
            }
        }
        return common;
    }

    public int leastFlow() {
        int least = NONE;
        for (int set = 1; set < (1 << vertices()) - 1; set++) {
            int sum = leaving(set);
            least = least == NONE ? sum : Math.min(least, sum);
        }
        return least;
    }

    // ---- parts

    public int partOf(int v) {
        check(v, vertices());
        return state.part.get(v);
    }

    private Set<Integer> inPart(List<Integer> part, int p) {
        Set<Integer> set = new TreeSet<>();
        for (int v = 0; v < part.size(); v++) {
            if (part.get(v) == p) {
                set.add(v);
            }
        }
        return set;
    }

    private int weightOf(Set<Integer> set) {
        return set.stream().mapToInt(v -> content.weights.get(v)).sum();
    }

    private static int mask(Set<Integer> set) {
        return set.stream().mapToInt(v -> 1 << v).sum();
    }

    private int debts(List<Integer> part) {
        int sum = 0;
        for (int p = 0; p < content.parts; p++) {
            sum += Math.max(0, weightOf(inPart(part, p)) - limit());
        }
        return sum;
    }

    private int cut(List<Integer> part) {
        return content.edges.stream().filter(e -> isCut(e, part)).mapToInt(Edge::weight).sum();
    }

    public int part(int p, int what) {
        check(p, content.parts);
        checkWhat(what, 5);
        Set<Integer> set = inPart(state.part, p);
        switch (what) {
            case 0: return weightOf(set);
            case 1: return Math.max(0, weightOf(set) - limit());
            case 2: return mask(set);
            case 3: return pieces(set).size();
            default: return leaving(mask(set));
        }
    }

    public int cut() {
        return cut(state.part);
    }

    public int debts() {
        return debts(state.part);
    }

    public int border() {
        Set<Integer> set = new TreeSet<>();
        for (Edge e : content.edges) {
            if (isCut(e, state.part)) {
                set.add(e.first);
                set.add(e.second);
            }
        }
        return mask(set);
    }

    public int heaviest() {
        int heaviest = 0;
        for (int p = 0; p < content.parts; p++) {
            if (part(p, 0) > part(heaviest, 0)) {
                heaviest = p;
            }
        }
        return heaviest;
    }

    public float cutShare() {
        return content.edges.isEmpty() ? 0.0f : (float) cut() / setting(7);
    }

    public double imbalance() {
        return vertices() == 0 ? 0.0 : (double) part(heaviest(), 0) * content.parts / sumOfWeights();
    }

    // ---- groups, moves

    private int joined(Set<Integer> one, Set<Integer> other) {
        int sum = 0;
        for (int v : one) {
            for (int w : other) {
                sum += content.join(v, w);
            }
        }
        return sum;
    }

    private int partOfGroup(State s, int g) {
        return s.part.get(s.groups().get(g).iterator().next());
    }

    public int group(int g, int what) {
        check(g, state.groups().size());
        checkWhat(what, 4);
        Set<Integer> set = state.groups().get(g);
        switch (what) {
            case 0: return mask(set);
            case 1: return weightOf(set);
            case 2: return partOfGroup(state, g);
            default: return leaving(mask(set));
        }
    }

    public int groupOf(int v) {
        check(v, vertices());
        for (int g = 0; g < state.groups().size(); g++) {
            if (state.groups().get(g).contains(v)) {
                return g;
            }
        }
        throw new AssertionError();
    }

    private int[] mates() {
        List<Set<Integer>> groups = state.groups();
        int[] mates = new int[groups.size()];
        Arrays.fill(mates, NONE);
        for (int g = 0; g < mates.length; g++) {
            if (mates[g] != NONE) {
                continue;
            }
            int found = NONE;
            for (int h = mates.length - 1; h > g; h--) {
                if (mates[h] == NONE && partOfGroup(state, g) == partOfGroup(state, h)
                    && joined(groups.get(g), groups.get(h)) > 0
                    && weightOf(groups.get(g)) + weightOf(groups.get(h)) <= limit()
                    && (found == NONE
                        || joined(groups.get(g), groups.get(h)) >= joined(groups.get(g), groups.get(found)))) {
                    found = h;
                }
            }
            if (found != NONE) {
                mates[g] = found;
                mates[found] = g;
            }
        }
        return mates;
    }

    public int whyNotShrink() {
        if (state.levels.size() == 5) {
            return 1;
        }
        return Arrays.stream(mates()).allMatch(m -> m == NONE) ? 2 : 0;
    }

    public int mate(int g) {
        check(g, state.groups().size());
        return mates()[g];
    }

    private List<Integer> moved(State s, int g, int p) {
        List<Integer> part = new ArrayList<>(s.part);
        for (int v : s.groups().get(g)) {
            part.set(v, p);
        }
        return part;
    }

    private int gainOf(State s, int g, int p) {
        return cut(s.part) - cut(moved(s, g, p));
    }

    private int reason(State s, int g, int p) {
        if (partOfGroup(s, g) == p) {
            return 1;
        }
        int behind = debts(moved(s, g, p));
        return behind > s.credit && behind > debts(s.part) ? 2 : 0;
    }

    public int gain(int g, int p) {
        checkMove(g, p);
        return gainOf(state, g, p);
    }

    public int whyNotMove(int g, int p) {
        checkMove(g, p);
        return reason(state, g, p);
    }

    public int debtsIf(int g, int p) {
        checkMove(g, p);
        return debts(moved(state, g, p));
    }

    private int nextStepOf(State s) {
        List<int[]> lowering = new ArrayList<>();
        List<int[]> gaining = new ArrayList<>();
        int now = debts(s.part);
        for (int g = 0; g < s.groups().size(); g++) {
            for (int p = 0; p < content.parts; p++) {
                if (reason(s, g, p) == 0) {
                    int[] move = {gainOf(s, g, p), debts(moved(s, g, p)), 10 * g + p};
                    if (move[1] < now) {
                        lowering.add(move);
                    }
                    if (move[0] > 0) {
                        gaining.add(move);
                    }
                }
            }
        }
        List<int[]> open = lowering.isEmpty() ? gaining : lowering;
        if (open.isEmpty()) {
            return NONE;
        }
        open.sort((x, y) -> x[0] != y[0] ? y[0] - x[0] : x[1] != y[1] ? x[1] - y[1] : x[2] - y[2]);
        return open.get(0)[2];
    }

    public int nextStep() {
        return nextStepOf(state);
    }

    /** The debts, the cut and then the part of each group. */
    private int[] best() {
        int n = state.groups().size();
        int[] best = null;
        int all = 1;
        for (int i = 0; i < n; i++) {
            all *= content.parts;
        }
        for (int code = 0; code < all; code++) {
            int[] found = new int[n + 2];
            int rest = code;
            List<Integer> part = new ArrayList<>(state.part);
            for (int g = n - 1; g >= 0; g--) {
                found[g + 2] = rest % content.parts;
                rest /= content.parts;
                for (int v : state.groups().get(g)) {
                    part.set(v, found[g + 2]);
                }
            }
            found[0] = debts(part);
            found[1] = cut(part);
            if (best == null || found[0] < best[0] || (found[0] == best[0] && found[1] < best[1])) {
                best = found;
            }
        }
        return best;
    }

    public int bestDebts() {
        return state.groups().size() > 7 ? NONE : best()[0];
    }

    public int bestCut() {
        return state.groups().size() > 7 ? NONE : best()[1];
    }

    public int stepsToEnd(int limit) {
        checkWhat(limit, 201);
        State s = state;
        for (int n = 0; n <= limit; n++) {
            int step = nextStepOf(s);
            if (step == NONE) {
                return n;
            }
            s = changed(s, step / 10, step % 10);
        }
        return NONE;
    }

    public int cutBehind(int steps) {
        checkWhat(steps, 201);
        State s = state;
        for (int n = 0; n < steps; n++) {
            int step = nextStepOf(s);
            if (step != NONE) {
                s = changed(s, step / 10, step % 10);
            }
        }
        return cut(s.part);
    }

    // ---- events

    public int events() {
        return state.events.size();
    }

    public int event(int i, int what) {
        check(i, state.events.size());
        checkWhat(what, 4);
        return state.events.get(state.events.size() - 1 - i).number(what);
    }

    // ---- changes

    private void remember(State before) {
        undoable.add(before);
        if (undoable.size() > 6) {
            undoable.remove(0);
        }
    }

    private State changed(State s, int g, int p) {
        List<Integer> part = moved(s, g, p);
        List<Event> events = new ArrayList<>(s.events);
        events.add(new Event(g, partOfGroup(s, g), p, cut(part)));
        if (events.size() > 30) {
            events.remove(0);
        }
        return new State(part, s.levels, s.credit, events);
    }

    public int shrink() {
        if (whyNotShrink() != 0) {
            throw new IllegalStateException();
        }
        remember(state);
        int[] mates = mates();
        List<Set<Integer>> groups = new ArrayList<>();
        for (int g = 0; g < mates.length; g++) {
            if (mates[g] == NONE || mates[g] > g) {
                Set<Integer> set = new TreeSet<>(state.groups().get(g));
                if (mates[g] != NONE) {
                    set.addAll(state.groups().get(mates[g]));
                }
                groups.add(set);
            }
        }
        groups.sort((x, y) -> x.iterator().next() - y.iterator().next());
        List<List<Set<Integer>>> levels = new ArrayList<>(state.levels);
        levels.add(groups);
        state = state.withLevels(levels);
        return groups.size();
    }

    public int grow() {
        if (state.levels.size() == 1) {
            throw new IllegalStateException();
        }
        remember(state);
        state = state.withLevels(new ArrayList<>(state.levels.subList(0, state.levels.size() - 1)));
        return state.groups().size();
    }

    public int move(int g, int p) {
        if (whyNotMove(g, p) != 0) {
            throw new IllegalStateException();
        }
        remember(state);
        state = changed(state, g, p);
        return cut();
    }

    public int step() {
        int step = nextStep();
        if (step == NONE) {
            return NONE;
        }
        return move(step / 10, step % 10);
    }

    public int steps(int most) {
        if (most < 1 || most > 99) {
            throw new IllegalArgumentException();
        }
        remember(state);
        int made = 0;
        for (int step = nextStep(); step != NONE && made < most; step = nextStep()) {
            state = changed(state, step / 10, step % 10);
            made++;
        }
        return made;
    }

    private int takeParts(int[] parts) {
        int count = 0;
        for (int g = 0; g < parts.length; g++) {
            if (partOfGroup(state, g) != parts[g]) {
                state = changed(state, g, parts[g]);
                count++;
            }
        }
        return count;
    }

    public int placeBest() {
        if (state.groups().size() > 7) {
            throw new IllegalStateException();
        }
        remember(state);
        int[] best = best();
        return takeParts(Arrays.copyOfRange(best, 2, best.length));
    }

    public int placeApart(int v, int w) {
        checkVertices(v, w);
        if (v == w) {
            throw new IllegalArgumentException();
        }
        if (content.parts != 2 || state.levels.size() != 1) {
            throw new IllegalStateException();
        }
        remember(state);
        int set = side(v, w);
        int[] parts = new int[vertices()];
        for (int i = 0; i < parts.length; i++) {
            parts[i] = (set >> i & 1) == 1 ? 0 : 1;
        }
        return takeParts(parts);
    }

    public int setCredit(int credit) {
        if (credit < 0 || credit > 99) {
            throw new IllegalArgumentException();
        }
        remember(state);
        int before = state.credit;
        state = state.withCredit(credit);
        return before;
    }

    // ---- reports, undo, a saved state

    public int report() {
        StringBuilder text = new StringBuilder();
        for (int p = 0; p < content.parts; p++) {
            text.append(p).append(":");
            for (int v : inPart(state.part, p)) {
                text.append(" ").append(content.names.get(v));
                if ((border() >> v & 1) == 1) {
                    text.append("+");
                }
            }
            text.append("\n");
        }
        report = text.toString();
        return report.length();
    }

    public int reportByte(int i) {
        check(i, report.length());
        return report.charAt(i);
    }

    public int undo() {
        if (undoable.isEmpty()) {
            return NONE;
        }
        state = undoable.remove(undoable.size() - 1);
        return undoable.size();
    }

    public int save() {
        savedContent = content;
        savedState = state;
        return cut();
    }

    public int restore() {
        if (savedContent == null) {
            throw new IllegalStateException();
        }
        content = savedContent;
        state = savedState;
        undoable = new ArrayList<>();
        return cut();
    }
}
