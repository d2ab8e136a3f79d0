/** Promises 14 to 21: parts, the cut, debts and the border. */
public final class PartsTest {
    public static void main(String[] args) {
        promise14();
        promise15();
        promise15Pieces();
        promise16();
        promise17();
        promise18();
        promise19();
        promise20();
        promise21();
        fresh();
        Kit.end("PartsTest");
    }

    private static ShareGraph placed() {
        ShareGraph g = Kit.read(Kit.SQUARE);
        g.move(2, 1);
        return g;
    }

    /** Each answer is that of the present state, also if the call before was about another one. */
    private static void fresh() {
        ShareGraph g = Kit.read("vertex a 5;vertex b 6;vertex c 2;edge a b 3;edge b c 1;parts 3;credit 99;");
        g.move(0, 2);
        g.move(2, 2);
        Kit.Call[] asked = {() -> g.part(2, 0), () -> g.part(0, 1), () -> g.part(2, 2), () -> g.part(2, 3),
            () -> g.part(0, 4), g::cut, g::debts, g::border, g::heaviest, () -> (long) (g.imbalance() * 13.0),
            () -> g.group(0, 2), () -> g.gain(0, 0), () -> g.whyNotMove(0, 2), () -> g.debtsIf(1, 1), g::nextStep,
            g::bestCut, () -> g.mate(0)};
        long[] due = {7, 1, 5, 2, 4, 4, 3, 7, 2, 21, 2, 3, 1, 3, 1, 4, -1};
        for (int i = 0; i < asked.length; i++) {
            g.stepsToEnd(1);
            Kit.due("a call behind stepsToEnd, " + i, asked[i].make(), due[i]);
            g.move(1, 1);
            g.undo();
            Kit.due("a call behind undo, " + i, asked[i].make(), due[i]);
        }
    }

    private static void promise14() {
        ShareGraph g = Kit.read(Kit.SQUARE);
        Kit.due("14: all in part 0", Kit.parts(g), "0000");
        g.move(2, 1);
        Kit.due("14: moved", g.partOf(2), 1);
        Kit.due("14: not moved", g.partOf(3), 0);
        Kit.refuses("14: vertex 4", Kit.INDEX, g, () -> g.partOf(4));
        Kit.refuses("14: vertex -1", Kit.INDEX, g, () -> g.partOf(-1));
        Kit.fails("14: no vertices", Kit.INDEX, () -> new ShareGraph().partOf(0));
    }

    private static void promise15() {
        ShareGraph g = placed();
        int[][] due = {{8, 3, 11, 1, 5}, {2, 0, 4, 1, 5}};
        for (int part = 0; part < 2; part++) {
            for (int what = 0; what < 5; what++) {
                Kit.due("15: part " + part + ", " + what, g.part(part, what), due[part][what]);
            }
        }
        Kit.refuses("15: part 2", Kit.INDEX, g, () -> g.part(2, 0));
        Kit.refuses("15: part -1", Kit.INDEX, g, () -> g.part(-1, 7));
        Kit.refuses("15: what 5", Kit.ARGUMENT, g, () -> g.part(1, 5));
        Kit.refuses("15: what -1", Kit.ARGUMENT, g, () -> g.part(0, -1));
        ShareGraph three = Kit.read(Kit.SQUARE.replace("parts 2", "parts 3"));
        three.move(2, 2);
        three.move(3, 1);
        Kit.due("15: cut edges of part 0", three.part(0, 4), 3);
        Kit.due("15: cut edges of part 1", three.part(1, 4), 6);
        Kit.due("15: cut edges of part 2", three.part(2, 4), 5);
        Kit.due("15: an empty part", new ShareGraph().part(1, 2), 0);
        // limit 4: the debt is what stands above it
        Kit.due("15: debt 1", three.part(0, 1), 1);
        Kit.due("15: no debt", three.part(1, 1), 0);
    }

    private static void promise15Pieces() {
        ShareGraph g = Kit.read(Kit.SQUARE);
        Kit.due("15: no pieces of an empty part", g.part(1, 3), 0);
        g.setCredit(99);
        g.move(0, 1);
        g.move(2, 1);
        Kit.due("15: a and c are two pieces", g.part(1, 3), 2);
        Kit.due("15: b and d are two pieces", g.part(0, 3), 2);
        g.move(1, 1);
        Kit.due("15: a, b and c are one piece", g.part(1, 3), 1);
    }

    private static void promise16() {
        Kit.due("16: no cut", Kit.read(Kit.SQUARE).cut(), 0);
        Kit.due("16: the cut", placed().cut(), 5);
        Kit.due("16: without edges", Kit.read("vertex a 1;").cut(), 0);
    }

    private static void promise17() {
        Kit.due("17: all in one part", Kit.read(Kit.SQUARE).debts(), 5);
        Kit.due("17: the slack helps", Kit.read(Kit.SQUARE + "slack 3;").debts(), 2);
        Kit.due("17: much slack", Kit.read(Kit.SQUARE + "slack 9;").debts(), 0);
        Kit.due("17: the credit does not help", Kit.read(Kit.SQUARE + "credit 9;").debts(), 5);
        ShareGraph g = Kit.read("vertex a 7;vertex b 7;vertex c 1;parts 3;credit 99;");
        g.move(1, 1);
        Kit.due("17: two parts with debts", g.debts(), 5);
    }

    private static void promise18() {
        Kit.due("18: no border", Kit.read(Kit.SQUARE).border(), 0);
        Kit.due("18: the border", placed().border(), 14);
        ShareGraph g = placed();
        g.step();
        Kit.due("18: all", g.border(), 15);
    }

    private static void promise19() {
        ShareGraph g = Kit.read("vertex a 3;vertex b 4;vertex c 3;parts 4;credit 99;");
        Kit.due("19: part 0", g.heaviest(), 0);
        g.move(0, 2);
        g.move(1, 3);
        Kit.due("19: part 3", g.heaviest(), 3);
        g.move(1, 1);
        g.move(2, 2);
        Kit.due("19: part 2", g.heaviest(), 2);
        g.move(2, 3);
        g.move(1, 0);
        Kit.due("19: part 0", g.heaviest(), 0);
        ShareGraph even = Kit.read("vertex a 3;vertex b 3;vertex c 1;parts 3;credit 99;");
        even.move(0, 1);
        even.move(1, 2);
        Kit.due("19: the lowest one of several", even.heaviest(), 1);
        Kit.due("19: no vertices", new ShareGraph().heaviest(), 0);
    }

    private static void promise20() {
        Kit.dueD("20: no cut", Kit.read(Kit.SQUARE).cutShare(), 0.0f);
        Kit.dueD("20: without edges", Kit.read("vertex a 1;").cutShare(), 0.0f);
        Kit.dueD("20: 5 of 12 as floats", placed().cutShare(), 5.0f / 12.0f);
        ShareGraph g = Kit.read("vertex a 1;vertex b 1;edge a b 9;");
        g.step();
        Kit.dueD("20: all", g.cutShare(), 1.0f);
    }

    private static void promise21() {
        Kit.dueD("21: no vertices", Kit.read("").imbalance(), 0.0);
        Kit.dueD("21: all in one part", Kit.read(Kit.SQUARE).imbalance(), 2.0);
        Kit.dueD("21: 8 of 10", placed().imbalance(), 16.0 / 10.0);
        ShareGraph g = Kit.read("vertex a 5;vertex b 6;parts 3;");
        g.move(0, 2);
        Kit.dueD("21: 6 times 3 of 11, as doubles", g.imbalance(), 18.0 / 11.0);
    }
}
