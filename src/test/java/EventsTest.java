/** Promises 34 and 35: events. */
public final class EventsTest {
    public static void main(String[] args) {
        promise34();
        promise35();
        promise35Orders();
        Kit.end("EventsTest");
    }

    private static void promise34() {
        ShareGraph g = Kit.read(Kit.SQUARE);
        Kit.due("34: none", g.events(), 0);
        g.step();
        Kit.due("34: one", g.events(), 1);
        g.shrink();
        g.setCredit(99);
        Kit.due("34: no group changes its part by these", g.events(), 1);
        Kit.due("34: nor by a step that is not there", g.steps(1) + g.events(), 1 + 2);
        for (int i = 0; i < 40; i++) {
            g.move(0, 1 - g.group(0, 2));
            Kit.due("34: at most 30", g.events(), Math.min(30, 3 + i));
        }
        g.undo();
        Kit.due("34: undone", g.events(), 30);
        Kit.feed(g, Kit.SQUARE);
        g.readText();
        Kit.due("34: a new text has none", g.events(), 0);
    }

    private static void promise35() {
        ShareGraph g = Kit.read(Kit.SQUARE + "credit 99;");
        Kit.fails("35: none", Kit.INDEX, () -> g.event(0, 0));
        g.move(2, 1);
        g.move(0, 1);
        Kit.due("35: the latest one", Kit.event(g, 0), "0 0 1 12");
        Kit.due("35: the one before", Kit.event(g, 1), "2 0 1 5");
        Kit.refuses("35: event 2", Kit.INDEX, g, () -> g.event(2, 0));
        Kit.fails("35: event -1", Kit.INDEX, () -> g.event(-1, 4));
        Kit.fails("35: both", Kit.INDEX, () -> g.event(2, 4));
        Kit.refuses("35: what 4", Kit.ARGUMENT, g, () -> g.event(1, 4));
        Kit.refuses("35: what -1", Kit.ARGUMENT, g, () -> g.event(0, -1));
        g.move(2, 0);
        for (int i = 0; i < 29; i++) {
            g.move(1, 1 - i % 2);
        }
        Kit.due("35: the oldest one of 30", Kit.event(g, 29), "2 1 0 7");
        Kit.fails("35: event 30", Kit.INDEX, () -> g.event(30, 0));
        g.move(1, 0);
        Kit.due("35: it goes", Kit.event(g, 29), "1 0 1 3");
        g.undo();
        Kit.due("35: and comes back", Kit.event(g, 29), "2 1 0 7");
    }

    private static void promise35Orders() {
        ShareGraph best = Kit.read(Kit.SQUARE);
        best.placeBest();
        Kit.due("35: by number, d behind c", Kit.event(best, 0), "3 0 1 3");
        Kit.due("35: the cut as if c changed alone", Kit.event(best, 1), "2 0 1 5");
        ShareGraph apart = Kit.read(Kit.SQUARE);
        apart.placeApart(2, 0);
        Kit.due("35: b behind a", Kit.event(apart, 0), "1 0 1 3");
        Kit.due("35: the cut as if a changed alone", Kit.event(apart, 1), "0 0 1 7");
        ShareGraph level = Kit.read(Kit.SQUARE);
        level.shrink();
        level.move(1, 1);
        Kit.due("35: the number of a group of level 1", Kit.event(level, 0), "1 0 1 3");
        level.grow();
        Kit.due("35: it stays", Kit.event(level, 0), "1 0 1 3");
        ShareGraph steps = Kit.read(Kit.SQUARE);
        steps.steps(9);
        Kit.due("35: steps, the latest one", Kit.event(steps, 0), "3 0 1 3");
        Kit.due("35: steps, the first one", Kit.event(steps, 1), "2 0 1 5");
    }
}
