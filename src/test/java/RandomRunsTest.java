import java.lang.reflect.InvocationTargetException;
import java.lang.reflect.Method;
import java.util.ArrayList;
import java.util.Collections;
import java.util.HashMap;
import java.util.List;
import java.util.Map;
import java.util.Random;

/** Runs of calls by seeds that are written here: ShareGraph must answer each call as the plain model does. */
public final class RandomRunsTest {
    private static final int RUNS = 4000;
    /** What an object answers behind so many calls is free. */
    private static final int MOST_CALLS = 512;
    private static final int QUESTIONS = 45;
    private static final String[] NAMES = {"a", "b", "c", "d", "e", "f", "g", "h", "i", "j", "vertex", "edge",
        "parts", "abcdefgh", "zzzzzzzz", "az"};
    private static final int[] ODD = {-1, Integer.MIN_VALUE, Integer.MAX_VALUE, 14, 31, 32, 200, 201, 99, 100, 1000};
    private static final Map<String, Method> METHODS = new HashMap<>();
    private static int asked = 0;

    private final Random random;
    private final ShareGraph real = new ShareGraph();
    private final Model model = new Model();
    private final List<String> told = new ArrayList<>();
    private final String where;
    private final List<Question> questions = new ArrayList<>();
    private List<String> names = new ArrayList<>();
    private int calls = 0;

    private RandomRunsTest(int seed) {
        random = new Random(seed);
        where = "seed " + seed;
    }

    public static void main(String[] args) {
        for (Method m : ShareGraph.class.getDeclaredMethods()) {
            METHODS.put("real " + m.getName(), m);
        }
        for (Method m : Model.class.getDeclaredMethods()) {
            if (java.lang.reflect.Modifier.isPublic(m.getModifiers())) {
                METHODS.put("model " + m.getName(), m);
            }
        }
        for (int seed = 0; seed < RUNS; seed++) {
            new RandomRunsTest(seed).run();
        }
        Kit.due("calls that were compared are many (1 yes)", asked > 100000 ? 1 : 0, 1);
        Kit.end("RandomRunsTest (" + asked + " calls compared)");
    }

    private void run() {
        if (random.nextInt(8) != 0) {
            readText(0);
        }
        while (!isOver()) {
            change();
            if (random.nextInt(6) == 0) {
                look();
            }
        }
    }

    private boolean isOver() {
        return calls >= MOST_CALLS;
    }

    // ---- the calls

    /** Nothing is called any more when the run is over. */
    private String call(String name, int... args) {
        if (isOver()) {
            return "0";
        }
        asked++;
        calls++;
        Object[] boxed = new Object[args.length];
        StringBuilder text = new StringBuilder(name).append('(');
        for (int i = 0; i < args.length; i++) {
            boxed[i] = args[i];
            text.append(i == 0 ? "" : ", ").append(args[i]);
        }
        told.add(text.append(')').toString());
        String got = outcome(METHODS.get("real " + name), real, boxed);
        String want = outcome(METHODS.get("model " + name), model, boxed);
        if (!got.equals(want)) {
            for (String line : told) {
                System.out.println("  " + line);
            }
        }
        Kit.due(where + ": " + text, got, want);
        if (!got.equals(want)) {
            Kit.end("RandomRunsTest");
        }
        return got;
    }

    private static String outcome(Method method, Object target, Object[] args) {
        try {
            method.setAccessible(true);
            return String.valueOf(method.invoke(target, args));
        } catch (InvocationTargetException e) {
            return "throws." + e.getCause().getClass().getName();
        } catch (IllegalAccessException e) {
            throw new IllegalStateException(e);
        }
    }

    private int below(int bound) {
        return bound <= 0 ? 0 : random.nextInt(bound);
    }

    private int some(int bound) {
        return random.nextInt(12) == 0 ? ODD[random.nextInt(ODD.length)] : below(bound + (random.nextInt(6) == 0 ? 1 : 0));
    }

    private void change() {
        int vertices = model.setting(0);
        int groups = model.setting(9);
        switch (random.nextInt(24)) {
            case 0: case 1: case 2: call("shrink"); break;
            case 3: call("grow"); break;
            case 4: case 5: case 6: case 7: call("move", some(groups), some(model.setting(2))); break;
            case 8: case 9: call("step"); break;
            case 10: call("steps", 1 + below(6)); break;
            case 11: call("steps", some(99)); break;
            case 12: call("placeBest"); break;
            case 13: case 14: call("placeApart", some(vertices), some(vertices)); break;
            case 15: call("setCredit", some(40)); break;
            case 16: case 17: call("undo"); break;
            case 18: call("save"); break;
            case 19: if (random.nextInt(3) == 0) { call("restore"); } break;
            case 20: if (random.nextInt(4) == 0) { readText(3); } break;
            case 21: case 22: runScript(); break;
            default: call("report"); call("reportByte", some(60)); break;
        }
    }

    private void look() {
        for (int what = -1; what <= 12; what++) {
            ask("setting", what);
        }
        for (int what = -1; what <= 3; what++) {
            ask("error", what);
        }
        for (String name : new String[] {"leastFlow", "cut", "debts", "border", "heaviest", "cutShare", "imbalance",
            "whyNotShrink", "nextStep", "events"}) {
            ask(name);
        }
        if (random.nextInt(6) == 0) {
            ask("bestDebts");
            ask("bestCut");
        }
        ask("stepsToEnd", some(20));
        ask("cutBehind", some(20));
        lookAtVertices();
        lookAtGroups();
        for (int i = 0; i <= model.events(); i++) {
            for (int what = 0; what < 4; what++) {
                ask("event", i, what);
            }
        }
        ask("event", some(3), some(5));
        ask("edge", some(model.setting(1)), some(5));
        askSome();
        if (random.nextInt(3) == 0) {
            int length = Integer.parseInt(call("report"));
            for (int i = -1; i <= length; i++) {
                call("reportByte", i);
            }
        }
    }

    private record Question(String name, int[] args) {
    }

    private void ask(String name, int... args) {
        questions.add(new Question(name, args));
    }

    /** In any order, so that no answer leans on what the call before has left. */
    private void askSome() {
        Collections.shuffle(questions, random);
        for (int i = 0; i < Math.min(QUESTIONS, questions.size()); i++) {
            call(questions.get(i).name, questions.get(i).args);
        }
        questions.clear();
    }

    private void lookAtVertices() {
        int vertices = model.setting(0);
        for (int v = -1; v <= vertices; v++) {
            ask("weight", v);
            ask("partOf", v);
            ask("groupOf", v);
            ask("between", v, some(vertices));
        }
        for (int i = 0; i < 2; i++) {
            int v = some(vertices);
            int w = some(vertices);
            ask("flow", v, w);
            ask("side", v, w);
        }
        for (int e = 0; e <= model.setting(1); e++) {
            for (int what = 0; what < 4; what++) {
                ask("edge", e, what);
            }
        }
        for (int p = -1; p <= model.setting(2); p++) {
            for (int what = -1; what <= 5; what++) {
                ask("part", p, what);
            }
        }
    }

    private void lookAtGroups() {
        int groups = model.setting(9);
        for (int g = 0; g <= groups; g++) {
            ask("mate", g);
            for (int what = 0; what <= 4; what++) {
                ask("group", g, what);
            }
            for (int p = 0; p <= model.setting(2); p++) {
                ask("gain", g, p);
                ask("whyNotMove", g, p);
                ask("debtsIf", g, p);
            }
        }
        ask("group", some(groups), some(5));
        ask("mate", some(groups));
        ask("gain", some(groups), some(4));
    }

    // ---- texts and scripts

    private void feed(String text) {
        int[] w = Kit.words(text);
        for (int i = 0; i < w.length; i += 5) {
            call("feed", w[i], w[i + 1], w[i + 2], w[i + 3], w[i + 4]);
        }
        call("truncate", random.nextInt(40) == 0 ? some(800) : text.length());
    }

    private void readText(int spoiled) {
        List<String> before = names;
        String text = text();
        if (random.nextInt(4) < spoiled) {
            text = spoil(text);
        }
        told.add("# " + text);
        feed(text);
        if (call("readText").startsWith("throws")) {
            names = before;
        }
        for (int what = 0; what < 3; what++) {
            call("error", what);
        }
    }

    private void runScript() {
        String script = script(0, 1 + random.nextInt(6));
        if (random.nextInt(3) == 0) {
            script = spoil(script);
        }
        feed(script);
        call("runScript");
        for (int what = 0; what < 3; what++) {
            call("error", what);
        }
    }

    private String gap() {
        int kind = random.nextInt(12);
        return kind == 0 ? "\n" : kind == 1 ? "  " : " ";
    }

    private String text() {
        StringBuilder text = new StringBuilder();
        names = new ArrayList<>();
        int vertices = random.nextInt(10) == 0 ? 13 + random.nextInt(3) : random.nextInt(9);
        int heavy = random.nextInt(3) == 0 ? 99 : 9;
        if (random.nextInt(3) != 0) {
            text.append("parts ").append(2 + random.nextInt(3)).append(";");
        }
        for (int i = 0; i < vertices; i++) {
            String name = NAMES[(random.nextInt(20) == 0 ? random.nextInt(NAMES.length) : i) % NAMES.length];
            names.add(name);
            text.append("vertex").append(gap()).append(name).append(gap()).append(1 + random.nextInt(heavy)).append(";");
        }
        if (random.nextInt(3) == 0) {
            text.append("slack ").append(random.nextInt(12)).append(";\n");
        }
        edges(text, vertices, heavy);
        if (random.nextInt(3) == 0) {
            text.append("credit").append(random.nextInt(30)).append(" ;");
        }
        return text.toString();
    }

    private void edges(StringBuilder text, int vertices, int heavy) {
        int density = random.nextInt(10);
        int count = 0;
        for (int v = 0; v < vertices; v++) {
            for (int w = v + 1; w < vertices; w++) {
                boolean isDoubled = random.nextInt(400) == 0;
                if ((random.nextInt(10) < density && count < 40) || random.nextInt(300) == 0) {
                    boolean turned = random.nextBoolean();
                    text.append("edge ").append(names.get(turned ? w : v)).append(gap())
                        .append(names.get(turned ? v : w)).append(gap())
                        .append(1 + random.nextInt(random.nextInt(3) == 0 ? heavy : 3)).append(isDoubled ? "" : ";");
                    count++;
                }
            }
        }
    }

    private String spoil(String text) {
        StringBuilder b = new StringBuilder(text);
        for (int i = random.nextInt(3); i >= 0; i--) {
            int at = random.nextInt(b.length() + 1);
            String[] pieces = {";", "(", ")", " ", "0", "99", "a", "abcdefghi", "1234", "A", "\u00e9", "\t", "edge ",
                "parts 2;", "step;", "repeat 2(", "", "", ""};
            b.replace(at, Math.min(b.length(), at + random.nextInt(4)), pieces[random.nextInt(pieces.length)]);
        }
        return b.length() > 800 ? b.substring(0, 800) : b.toString();
    }

    private String anyName() {
        return names.isEmpty() || random.nextInt(15) == 0 ? NAMES[random.nextInt(NAMES.length)]
            : names.get(random.nextInt(names.size()));
    }

    private String script(int depth, int commands) {
        StringBuilder text = new StringBuilder();
        for (int i = 0; i < commands; i++) {
            text.append(command(depth)).append(random.nextInt(10) == 0 ? " ;\n" : ";");
        }
        return text.toString();
    }

    private String command(int depth) {
        switch (random.nextInt(14)) {
            case 0: case 1: return "shrink";
            case 2: return "grow";
            case 3: case 4: return "move" + gap() + below(model.setting(9)) + gap() + below(model.setting(2));
            case 5: case 6: return "step";
            case 7: return "steps " + (random.nextInt(9) == 0 ? below(120) : 1 + below(3));
            case 8: return random.nextInt(4) == 0 ? "best" : "move 0 1";
            case 9: return "apart " + anyName() + " " + anyName();
            case 10: return "credit " + (random.nextInt(9) == 0 ? below(120) : below(30));
            case 11: return "credit 5";
            default:
                return depth > 2 ? "step" : "repeat " + (random.nextInt(12) == 0 ? below(23) : 1 + below(4)) + gap()
                    + "(" + script(depth + 1, below(4)) + ")";
        }
    }
}
