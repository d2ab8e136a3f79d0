/** Term 4, moves, sentence by sentence, on both sides of each bound; with promises 26 to 33 and 38 to 41. */
public final class Term4Test {
    private static final int NONE = ShareGraph.NONE;
    /** Two heavy vertices: a limit of 5 when they are apart, and debts of 5 when they are together. */
    private static final String TWINS = "vertex a 5;vertex b 5;edge a b 5;";

    public static void main(String[] args) {
        gains();
        gainIsWhatTheCutFalls();
        alreadyThere();
        aboveTheCredit();
        aboveWhatItIsNow();
        aboveBoth();
        movesWithReasons();
        debtsBehind();
        lowersDebts();
        lowersByOne();
        lowersBeforeGains();
        lowersWithGreatestGain();
        lowersWithLeastDebts();
        noneLowers();
        gainAboveZero();
        gainThatCanBeDone();
        greatestGain();
        gainWithLeastDebts();
        lowestGroup();
        lowestPart();
        noStep();
        stepNumbers();
        steps();
        stepsMost();
        stepsToEnd();
        cutBehind();
        manySteps();
        bestOfSeven();
        bestDebtsFirst();
        bestCutSecond();
        bestFirstOfSeveral();
        bestOfLevels();
        bestOfFewerThanBefore();
        bestOfFew();
        placeBestMoves();
        Kit.end("Term4Test");
    }

    /** What joins it to groups in that part, less what joins it to other groups in its own part. */
    private static void gains() {
        ShareGraph g = Kit.read(Kit.vertices(5) + "parts 4;credit 99;slack 9;"
            + "edge a b 1;edge a c 10;edge d a 30;edge b c 7;");
        Kit.due("term 4: all in its own part", g.gain(0, 3), -41);
        g.move(1, 1);
        g.move(2, 2);
        Kit.due("term 4: to b", g.gain(0, 1), 1 - 30);
        Kit.due("term 4: to c", g.gain(0, 2), 10 - 30);
        Kit.due("term 4: to an empty part", g.gain(0, 3), -30);
        Kit.due("promise 26: where it is", g.gain(0, 0), 0);
        Kit.due("term 4: b to c", g.gain(1, 2), 7);
        Kit.due("term 4: b to a and d", g.gain(1, 0), 1);
        Kit.due("term 4: e is joined to none", g.gain(4, 1), 0);
        Kit.due("promise 26: where b is", g.gain(1, 1), 0);
        g.move(3, 3);
        Kit.due("term 4: to d", g.gain(0, 3), 30);
    }

    /** By so much the cut falls if it is moved there. */
    private static void gainIsWhatTheCutFalls() {
        ShareGraph g = Kit.read(Kit.vertices(5) + "parts 3;credit 99;slack 9;"
            + "edge a b 1;edge a c 2;edge b c 4;edge c d 8;edge d e 16;edge e a 32;");
        int[] groups = {4, 3, 0, 2, 4, 1, 0, 2, 3};
        int[] parts = {2, 1, 2, 1, 1, 2, 1, 0, 0};
        for (int i = 0; i < groups.length; i++) {
            int before = g.cut();
            int gain = g.gain(groups[i], parts[i]);
            Kit.due("term 4: the cut behind move " + i, g.move(groups[i], parts[i]), before - gain);
            Kit.due("promise 38: the cut then", g.cut(), before - gain);
        }
    }

    /** 1: it is there already. */
    private static void alreadyThere() {
        ShareGraph g = Kit.read(TWINS + "parts 4;credit 99;");
        int[] parts = {0, 3, 1};
        for (int part : parts) {
            if (g.partOf(0) != part) {
                g.move(0, part);
            }
            for (int other = 0; other < 4; other++) {
                Kit.due("term 4: from " + part + " to " + other, g.whyNotMove(0, other), other == part ? 1 : 0);
            }
            Kit.refuses("promise 38: it is there", Kit.STATE, g, () -> g.move(0, part));
        }
    }

    private static ShareGraph apart(int credit) {
        ShareGraph g = Kit.read(TWINS + "credit " + credit + ";");
        g.move(0, 1);
        return g;
    }

    /** 2: the sum of all debts would be above both the credit and what it is now. Now it is 0, it would be 5. */
    private static void aboveTheCredit() {
        int[] credits = {0, 4, 5, 6, 99};
        int[] due = {2, 2, 0, 0, 0};
        for (int i = 0; i < credits.length; i++) {
            ShareGraph g = apart(credits[i]);
            Kit.due("term 4: no debts now", g.debts(), 0);
            Kit.due("term 4: debts behind the move", g.debtsIf(1, 1), 5);
            Kit.due("term 4: a credit of " + credits[i], g.whyNotMove(1, 1), due[i]);
            if (due[i] == 0) {
                Kit.due("promise 38: it can be done", g.move(1, 1), 0);
            } else {
                Kit.refuses("promise 38: above the credit", Kit.STATE, g, () -> g.move(1, 1));
            }
        }
    }

    /** Now it is 5, above the credit of 0. */
    private static void aboveWhatItIsNow() {
        ShareGraph g = Kit.read("vertex a 10;vertex b 1;vertex c 1;");
        g.move(1, 1);
        Kit.due("term 4: debts now", g.debts(), 5);
        Kit.due("term 4: b back, 6 behind", g.debtsIf(1, 0) * 10 + g.whyNotMove(1, 0), 62);
        Kit.due("term 4: c away, 4 behind", g.debtsIf(2, 1) * 10 + g.whyNotMove(2, 1), 40);
        Kit.due("term 4: a away, 5 behind", g.debtsIf(0, 1) * 10 + g.whyNotMove(0, 1), 50);
        Kit.refuses("promise 38: more debts than now", Kit.STATE, g, () -> g.move(1, 0));
        Kit.due("promise 38: as many debts as now", g.move(0, 1), 0);
    }

    /** Now it is 5, and would be 6. */
    private static void aboveBoth() {
        int[] credits = {0, 4, 5, 6, 7};
        int[] due = {2, 2, 2, 0, 0};
        for (int i = 0; i < credits.length; i++) {
            ShareGraph g = Kit.read("vertex a 10;vertex b 1;vertex c 1;credit " + credits[i] + ";");
            g.move(1, 1);
            Kit.due("term 4: now 5, then 6, credit " + credits[i], g.whyNotMove(1, 0), due[i]);
            Kit.due("term 4: now 5, then 4, credit " + credits[i], g.whyNotMove(2, 1), 0);
        }
    }

    private static void movesWithReasons() {
        ShareGraph g = apart(4);
        Kit.refuses("promise 38: reason 1", Kit.STATE, g, () -> g.move(0, 1));
        Kit.refuses("promise 38: reason 2", Kit.STATE, g, () -> g.move(0, 0));
        g.setCredit(5);
        Kit.due("promise 38: no reason", g.move(0, 0), 0);
        Kit.due("promise 38: the part", Kit.parts(g), "00");
        Kit.due("promise 38: one event more", g.events(), 2);
        Kit.due("promise 38: can be undone", g.setting(10), 3);
    }

    /** Promise 28: the debts that there would be if a group was in a part. */
    private static void debtsBehind() {
        ShareGraph g = Kit.read("vertex a 7;vertex b 6;vertex c 2;vertex d 3;parts 3;credit 99;");
        g.move(1, 1);
        g.move(2, 2);
        // 10, 6 and 2 of a limit of 6
        int[][] due = {{4, 7 + 0, 3}, {10, 4, 4 + 2}, {6, 4 + 2, 4}, {4, 1 + 3, 1}};
        for (int group = 0; group < 4; group++) {
            for (int part = 0; part < 3; part++) {
                Kit.due("promise 28: group " + group + " in part " + part, g.debtsIf(group, part), due[group][part]);
            }
        }
        Kit.due("promise 28: where it is, as it is now", g.debts(), 4);
    }

    /** If the sum of all debts is above 0, a move that lowers it; without debts only a gain counts. */
    private static void lowersDebts() {
        ShareGraph none = Kit.read("vertex a 3;vertex b 3;edge a b 5;slack 3;");
        Kit.due("term 4: debts of 0", none.debts(), 0);
        Kit.due("term 4: no step without debts", none.nextStep(), NONE);
        ShareGraph one = Kit.read("vertex a 3;vertex b 3;edge a b 5;slack 2;");
        Kit.due("term 4: debts of 1", one.debts(), 1);
        Kit.due("term 4: a step that loses 5", one.nextStep(), 1);
        Kit.due("promise 39: the cut then", one.step(), 5);
        Kit.due("term 4: no step back", one.nextStep(), NONE);
    }

    /** A move that leaves the debts as they are does not lower them. */
    private static void lowersByOne() {
        ShareGraph same = Kit.read("vertex a 9;");
        Kit.due("term 4: debts stay", same.debts() * 10 + same.debtsIf(0, 1), 44);
        Kit.due("term 4: no step", same.nextStep(), NONE);
        ShareGraph one = Kit.read("vertex a 9;vertex b 1;edge a b 99;");
        Kit.due("term 4: b lowers them by 1", one.debts() * 10 + one.debtsIf(1, 1), 54);
        Kit.due("term 4: a by 1, too, and is the lower one", one.nextStep(), 1);
        ShareGraph heavy = Kit.read("vertex a 9;vertex b 1;vertex c 1;edge a b 99;edge b c 3;");
        heavy.move(1, 1);
        Kit.due("term 4: only c lowers them", heavy.debts() * 100 + heavy.debtsIf(0, 1) * 10 + heavy.debtsIf(2, 1), 443);
        Kit.due("term 4: though b gains 96, and a 99", heavy.nextStep(), 21);
    }

    /** A gain of a move that does not lower the debts is nothing to it, as long as one lowers them. */
    private static void lowersBeforeGains() {
        ShareGraph g = Kit.read("vertex a 1;vertex b 1;vertex c 9;vertex d 5;edge a b 9;edge c d 50;credit 99;");
        g.move(1, 1);
        // a and c and d are 15 of a limit of 8
        Kit.due("term 4: b back gains 9", g.gain(1, 0), 9);
        Kit.due("term 4: but makes more debts", g.debtsIf(1, 0) * 10 + g.debts(), 87);
        Kit.due("term 4: a gains 9, too", g.gain(0, 1), 9);
        Kit.due("term 4: a lowers the debts by 1", g.debtsIf(0, 1), 6);
        Kit.due("term 4: so it is a", g.nextStep(), 1);
        g.step();
        Kit.due("term 4: c and d lose 50 each, and lower them", g.nextStep(), 31);
    }

    /** Of the moves that lower the debts the one with the greatest gain, though another one lowers them more. */
    private static void lowersWithGreatestGain() {
        ShareGraph g = Kit.read("vertex a 4;vertex b 1;vertex c 3;edge a c 3;edge b c 2;");
        Kit.due("term 4: gains", g.gain(0, 1) * 100 + g.gain(1, 1) * 10 + g.gain(2, 1), -300 - 20 - 5);
        Kit.due("term 4: debts behind", g.debtsIf(0, 1) * 100 + g.debtsIf(1, 1) * 10 + g.debtsIf(2, 1), 31);
        Kit.due("term 4: the greatest gain is -2", g.nextStep(), 11);
    }

    /** Of several the one behind which the sum of all debts is least. */
    private static void lowersWithLeastDebts() {
        ShareGraph g = Kit.read("vertex a 1;vertex b 3;vertex c 2;");
        Kit.due("term 4: debts behind", g.debtsIf(0, 1) * 100 + g.debtsIf(1, 1) * 10 + g.debtsIf(2, 1), 201);
        Kit.due("term 4: b leaves none", g.nextStep(), 11);
        ShareGraph last = Kit.read("vertex a 1;vertex b 1;vertex c 3;vertex d 1;");
        Kit.due("term 4: c leaves none", last.nextStep(), 21);
        // to which part makes a difference, too
        ShareGraph part = Kit.read("vertex a 6;vertex b 2;vertex c 4;parts 3;credit 99;");
        part.move(1, 1);
        Kit.due("term 4: a to 1 or 2", part.debtsIf(0, 1) * 10 + part.debtsIf(0, 2), 42);
        Kit.due("term 4: c to 1 or 2", part.debtsIf(2, 1) * 10 + part.debtsIf(2, 2), 42);
        Kit.due("term 4: a to 2", part.nextStep(), 2);
    }

    /** If there is none that lowers them: of the moves with a gain above 0 that can be done. */
    private static void noneLowers() {
        ShareGraph g = Kit.read("vertex a 9;vertex b 1;vertex c 1;edge b c 3;parts 3;");
        g.move(1, 1);
        g.move(2, 2);
        Kit.due("term 4: debts that nobody lowers", g.debts(), 5);
        Kit.due("term 4: b to c", g.nextStep(), 12);
        g.step();
        Kit.due("term 4: nothing more", g.nextStep(), NONE);
    }

    /** A gain above 0. */
    private static void gainAboveZero() {
        String text = Kit.vertices(3) + "slack 9;";
        ShareGraph zero = Kit.read(text + "edge a b 1;edge b c 1;");
        zero.move(0, 1);
        Kit.due("term 4: gains of a, b and c", zero.gain(0, 0) * 100 + zero.gain(1, 1) * 10 + zero.gain(2, 1), 99);
        Kit.due("term 4: a gains 1, b gains 0", zero.nextStep(), 0);
        ShareGraph only = Kit.read("vertex a 9;vertex b 1;edge a b 1;");
        only.move(1, 1);
        Kit.due("term 4: the gain of 1 cannot be done", only.gain(1, 0) * 10 + only.whyNotMove(1, 0), 12);
        Kit.due("term 4: that of a cannot either", only.gain(0, 1) * 10 + only.whyNotMove(0, 1), 12);
        Kit.due("term 4: no step", only.nextStep(), NONE);
        ShareGraph none = Kit.read(Kit.vertices(4) + "slack 9;edge a b 1;edge b c 1;edge c d 1;edge d a 1;");
        none.move(0, 1);
        none.move(1, 1);
        Kit.due("term 4: all gains are 0", none.gain(0, 0) + none.gain(1, 0) + none.gain(2, 1) + none.gain(3, 1), 0);
        Kit.due("term 4: no step", none.nextStep(), NONE);
    }

    /** A gain counts only if the move can be done: the credit decides. */
    private static void gainThatCanBeDone() {
        Kit.due("term 4: credit 4 of 5", apart(4).nextStep(), NONE);
        Kit.due("term 4: credit 5 of 5", apart(5).nextStep(), 0);
        ShareGraph g = Kit.read("vertex a 5;vertex b 5;vertex c 1;vertex d 1;edge a b 9;edge c d 2;credit 4;");
        Kit.run(g, "move 1 1;move 3 1;");
        Kit.due("term 4: the greater gain makes debts of 5", g.debtsIf(0, 1) * 100 + g.gain(0, 1) * 10 + g.whyNotMove(0, 1),
            592);
        Kit.due("term 4: the lesser one can be done", g.nextStep(), 21);
        g.setCredit(5);
        Kit.due("term 4: now the greater one", g.nextStep(), 1);
    }

    private static void greatestGain() {
        ShareGraph g = Kit.read(Kit.vertices(6) + "slack 9;parts 4;edge a b 2;edge c d 3;edge e f 2;");
        Kit.run(g, "move 1 1;move 3 2;move 5 3;");
        Kit.due("term 4: c to d", g.nextStep(), 22);
        g.step();
        Kit.due("term 4: then a to b", g.nextStep(), 1);
        g.step();
        Kit.due("term 4: then e to f", g.nextStep(), 43);
        g.step();
        Kit.due("term 4: then none", g.nextStep(), NONE);
    }

    /** Of several gains the one behind which the debts are least. */
    private static void gainWithLeastDebts() {
        ShareGraph g = Kit.read("vertex a 5;vertex b 3;vertex c 4;vertex d 4;edge a c 7;edge b d 7;credit 99;");
        Kit.run(g, "move 2 1;move 3 1;");
        Kit.due("term 4: no debts now", g.debts(), 0);
        Kit.due("term 4: equal gains", g.gain(0, 1) * 10 + g.gain(1, 1), 77);
        Kit.due("term 4: debts behind", g.debtsIf(0, 1) * 10 + g.debtsIf(1, 1), 53);
        Kit.due("term 4: c back leaves 4, d back leaves 4", g.debtsIf(2, 0) * 10 + g.debtsIf(3, 0), 44);
        Kit.due("term 4: b", g.nextStep(), 11);
    }

    /** Of several still, the one of the lowest group. */
    private static void lowestGroup() {
        Kit.due("term 4: of 14 that lower the debts alike", Kit.read(Kit.vertices(14)).nextStep(), 1);
        ShareGraph g = Kit.read(Kit.vertices(4) + "slack 9;edge a b 4;edge c d 4;");
        Kit.run(g, "move 1 1;move 3 1;");
        Kit.due("term 4: of four gains alike", g.nextStep(), 1);
        ShareGraph last = Kit.read("vertex a 2;vertex b 1;vertex c 2;vertex d 1;edge a c 9;edge b a 1;edge d a 1;");
        Kit.due("term 4: b and d alike", last.nextStep(), 11);
    }

    /** Then the lowest part. */
    private static void lowestPart() {
        ShareGraph g = Kit.read(Kit.vertices(5) + "parts 4;");
        Kit.due("term 4: parts 1, 2 and 3 alike", g.nextStep(), 1);
        g.move(0, 1);
        g.move(1, 2);
        Kit.due("term 4: part 1 has room, as well as 2 and 3", g.nextStep(), 21);
        ShareGraph gain = Kit.read(Kit.vertices(3) + "slack 9;parts 4;edge a b 2;edge a c 2;");
        Kit.run(gain, "move 1 3;move 2 2;");
        Kit.due("term 4: a to c in 2 or to b in 3", gain.nextStep(), 2);
    }

    /** There is no step if there is no such move. */
    private static void noStep() {
        Kit.due("promise 29: no vertices", new ShareGraph().nextStep(), NONE);
        Kit.due("promise 39: no vertices", new ShareGraph().step(), NONE);
        Kit.due("promise 40: no vertices", new ShareGraph().steps(99), 0);
        Kit.due("promise 29: one vertex", Kit.read("vertex a 1;").nextStep(), NONE);
        Kit.due("promise 29: no edges and no debts", Kit.read(Kit.vertices(4) + "slack 9;").nextStep(), NONE);
        ShareGraph g = Kit.read(Kit.SQUARE);
        g.steps(2);
        String before = Kit.state(g);
        Kit.due("promise 39: none is left", g.step(), NONE);
        Kit.due("promise 39: nothing changes", Kit.state(g), before);
        Kit.due("promise 40: none is left", g.steps(1), 0);
        Kit.due("promise 46: steps can be undone, step could not", g.setting(10), 2);
    }

    /** Promise 29: 10 times the group plus the part. */
    private static void stepNumbers() {
        StringBuilder text = new StringBuilder(Kit.vertices(13) + "vertex n 13;parts 4;");
        for (int i = 0; i < 13; i++) {
            text.append("edge ").append((char) ('a' + i)).append(' ').append((char) ('a' + (i + 1) % 13)).append(" 1;");
        }
        Kit.due("promise 29: group 13 to part 1", Kit.read(text.toString()).nextStep(), 131);
        ShareGraph g = Kit.read(Kit.vertices(14) + "slack 99;parts 4;edge m n 1;");
        g.move(12, 3);
        Kit.due("promise 29: group 12 back to part 0", g.nextStep(), 120);
        g.move(11, 3);
        g.move(13, 2);
        Kit.due("promise 29: group 12 to part 2", g.nextStep(), 122);
        g.step();
        Kit.due("promise 39: it is done", g.partOf(12), 2);
    }

    /** Promises 39 and 40: a step is the next one, steps are one after the other. */
    private static void steps() {
        ShareGraph one = Kit.read(Kit.vertices(9) + Kit.edges(8) + "parts 3;");
        ShareGraph all = Kit.read(Kit.vertices(9) + Kit.edges(8) + "parts 3;");
        int made = 0;
        for (int next = one.nextStep(); next != NONE && made < 50; next = one.nextStep()) {
            int cut = one.cut() - one.gain(next / 10, next % 10);
            Kit.due("promise 39: the cut then", one.step(), cut);
            Kit.due("promise 39: its part", one.group(next / 10, 2), next % 10);
            made++;
        }
        Kit.due("promise 40: as many", all.steps(99), made);
        Kit.due("promise 40: the same parts", Kit.parts(all), Kit.parts(one));
        Kit.due("promise 40: the same events", Kit.event(all, 0) + all.events(), Kit.event(one, 0) + one.events());
    }

    /** Promise 40: 1 to 99, and at most so many are made. */
    private static void stepsMost() {
        for (int most : new int[] {1, 2, 98, 99}) {
            Kit.due("promise 40: steps without an end", apart(5).steps(most), most);
        }
        for (int most : new int[] {0, -1, 100, 200}) {
            ShareGraph g = apart(5);
            Kit.refuses("promise 40: steps of " + most, Kit.ARGUMENT, g, () -> g.steps(most));
        }
        ShareGraph g = Kit.read(Kit.SQUARE);
        Kit.due("promise 40: two of 2", Kit.read(Kit.SQUARE).steps(2), 2);
        Kit.due("promise 40: one of 1", g.steps(1), 1);
        Kit.due("promise 40: the second one of 99", g.steps(99), 1);
        Kit.due("promise 40: none of 99", g.steps(99), 0);
        Kit.due("promise 46: each can be undone", g.setting(10), 3);
    }

    /** Promise 32: the least number, up to the limit, behind which there is none. */
    private static void stepsToEnd() {
        ShareGraph none = Kit.read(Kit.vertices(2) + "slack 9;");
        for (int limit : new int[] {0, 1, 199, 200}) {
            Kit.due("promise 32: no step, limit " + limit, none.stepsToEnd(limit), 0);
            Kit.due("promise 32: no end, limit " + limit, apart(5).stepsToEnd(limit), NONE);
        }
        ShareGraph two = Kit.read(Kit.SQUARE);
        int[] due = {NONE, NONE, 2, 2};
        for (int limit = 0; limit < 4; limit++) {
            Kit.due("promise 32: two steps, limit " + limit, two.stepsToEnd(limit), due[limit]);
        }
        two.step();
        Kit.due("promise 32: one is left", two.stepsToEnd(200), 1);
        Kit.due("promise 32: a limit of 0", two.stepsToEnd(0), NONE);
        two.step();
        Kit.due("promise 32: none is left", two.stepsToEnd(0), 0);
    }

    /** Promise 33: the cut behind so many steps (fewer if there are no more). */
    private static void cutBehind() {
        ShareGraph two = Kit.read(Kit.SQUARE);
        int[] due = {0, 5, 3, 3, 3};
        for (int steps = 0; steps < 5; steps++) {
            Kit.due("promise 33: behind " + steps, two.cutBehind(steps), due[steps]);
        }
        Kit.due("promise 33: behind 200", two.cutBehind(200), 3);
        Kit.due("promise 33: nothing has changed", two.cut(), 0);
        Kit.due("promise 33: no event", two.events(), 0);
        int[] numbers = {0, 1, 2, 99, 100, 199, 200};
        for (int steps : numbers) {
            Kit.due("promise 33: without an end, behind " + steps, apart(5).cutBehind(steps), steps % 2 == 0 ? 5 : 0);
        }
    }

    /** All of the 200 steps are tried. */
    private static void manySteps() {
        ShareGraph g = apart(5);
        g.steps(99);
        Kit.due("promise 40: 99 steps, the cut", g.cut(), 0);
        g.steps(99);
        Kit.due("promise 40: 198 steps, the cut", g.cut(), 5);
        Kit.due("promise 33: 200 more", g.cutBehind(200), 5);
        Kit.due("promise 33: 199 more", g.cutBehind(199), 0);
        g.setCredit(4);
        Kit.due("promise 32: an end by now", g.stepsToEnd(200), 0);
    }

    /** The best sharing, if there are at most 7 groups. */
    private static void bestOfSeven() {
        for (int count = 0; count <= 14; count++) {
            for (int parts = 2; parts <= 4; parts += 2) {
                ShareGraph g = Kit.read(Kit.vertices(count) + "parts " + parts + ";");
                Kit.due("promise 30: " + count + " groups", g.bestDebts(), count > 7 ? NONE : 0);
                Kit.due("promise 31: " + count + " groups", g.bestCut(), count > 7 ? NONE : 0);
                if (count > 7) {
                    Kit.refuses("promise 41: " + count + " groups", Kit.STATE, g, g::placeBest);
                } else {
                    g.placeBest();
                    Kit.due("promise 41: " + count + " groups", g.setting(10), 1);
                }
            }
        }
        ShareGraph g = Kit.read(Kit.vertices(8) + "edge a h 1;slack 9;");
        g.shrink();
        Kit.due("promise 30: 7 groups of 8 vertices", g.bestDebts(), 0);
        g.grow();
        Kit.due("promise 30: 8 groups again", g.bestDebts(), NONE);
    }

    /** That with the least sum of all debts. */
    private static void bestDebtsFirst() {
        best("a b apart", TWINS, 0, 5, "01");
        best("a b together", TWINS + "slack 5;", 0, 0, "00");
        best("a b apart, just too heavy", TWINS + "slack 4;", 0, 5, "01");
        best("the credit is nothing to it", TWINS + "credit 99;", 0, 5, "01");
        best("one that is too heavy", "vertex a 9;vertex b 1;edge a b 3;", 4, 3, "01");
        best("one alone", "vertex a 9;", 4, 0, "0");
        best("3 and 3 and 2", "vertex a 3;vertex b 3;vertex c 2;edge a b 9;", 1, 9, "010");
        best("9 9 9 1 in 4", "vertex a 9;vertex b 9;vertex c 9;vertex d 1;parts 4;", 6, 0, "0123");
    }

    private static void best(String what, String text, int debts, int cut, String parts) {
        ShareGraph g = Kit.read(text);
        Kit.due("promise 30: " + what, g.bestDebts(), debts);
        Kit.due("promise 31: " + what, g.bestCut(), cut);
        int changed = parts.replace("0", "").length();
        Kit.due("promise 41: " + what + ", groups that changed", g.placeBest(), changed);
        Kit.due("term 4: " + what, Kit.parts(g), parts);
        Kit.due("promise 41: " + what + ", the debts", g.debts(), debts);
        Kit.due("promise 41: " + what + ", the cut", g.cut(), cut);
    }

    /** Of several that with the least cut. */
    private static void bestCutSecond() {
        String four = Kit.vertices(4);
        best("a b, c d", four + "edge a b 1;edge c d 1;", 0, 0, "0011");
        best("a c, b d", four + "edge a c 1;edge b d 1;", 0, 0, "0101");
        best("a d, b c", four + "edge a d 1;edge b c 1;", 0, 0, "0110");
        best("by one edge", four + "edge a b 9;edge b c 10;edge c d 9;", 0, 10, "0011");
        best("by the middle", four + "edge a b 9;edge b c 19;edge c d 9;", 0, 18, "0110");
        best("with room for all", four + "edge a b 1;edge c d 1;slack 2;", 0, 0, "0000");
        best("with room for three", four + "edge a b 5;edge a c 5;edge d a 1;slack 1;", 0, 1, "0001");
        best("three parts", Kit.vertices(6) + "parts 3;edge a f 3;edge b e 3;edge c d 3;edge a b 1;", 0, 1, "012210");
    }

    /** Of several the first one: the part of group 0 is lowest, then that of group 1, and so on. */
    private static void bestFirstOfSeveral() {
        best("two alike", "vertex a 2;vertex b 2;", 0, 0, "01");
        best("four in two", Kit.vertices(4), 0, 0, "0011");
        best("three in two", Kit.vertices(3), 0, 0, "001");
        best("five in three", Kit.vertices(5) + "parts 3;", 0, 0, "00112");
        best("four in four", Kit.vertices(4) + "parts 4;", 0, 0, "0123");
        best("seven in four", Kit.vertices(7) + "parts 4;", 0, 0, "0011223");
        best("a heavy one last", "vertex a 1;vertex b 1;vertex c 2;", 0, 0, "001");
        best("a heavy one first", "vertex a 2;vertex b 1;vertex c 1;", 0, 0, "011");
        best("no edges, much room", Kit.vertices(7) + "parts 4;slack 9;", 0, 0, "0000000");
        // where they are now is nothing to it
        ShareGraph g = Kit.read(Kit.vertices(2) + "credit 99;");
        g.move(0, 1);
        Kit.due("promise 41: both change", g.placeBest(), 2);
        Kit.due("term 4: the first one", Kit.parts(g), "01");
    }

    /** Of the groups of the present level. */
    private static void bestOfLevels() {
        ShareGraph g = Kit.read("vertex a 1;vertex b 1;vertex c 1;vertex d 3;edge a b 5;edge b c 1;edge c d 4;");
        Kit.due("promise 31: level 0", g.bestDebts() * 10 + g.bestCut(), 4);
        Kit.due("term 3: a and b", g.shrink(), 3);
        Kit.due("promise 31: level 1", g.bestDebts() * 10 + g.bestCut(), 4);
        g.placeBest();
        Kit.due("promise 41: a, b and c", Kit.parts(g), "0001");
        ShareGraph wide = Kit.read("vertex a 3;vertex b 2;vertex c 2;vertex d 1;edge a b 9;slack 2;");
        Kit.due("promise 30: level 0", wide.bestDebts() * 10 + wide.bestCut(), 0);
        wide.shrink();
        Kit.due("promise 30: a and b are 5 of a limit of 6", wide.bestDebts() * 10 + wide.bestCut(), 0);
        Kit.due("promise 41: c and d", wide.placeBest(), 1);
        Kit.due("term 4: a b d, c", Kit.parts(wide), "0010");
    }

    /** Of fewer groups than the time before: those that are no groups any more do not change their part. */
    private static void bestOfFewerThanBefore() {
        ShareGraph g = Kit.read(Kit.vertices(7) + "edge a g 2;edge b f 1;slack 2;credit 99;");
        Kit.due("promise 41: 7 groups", g.placeBest(), 1);
        Kit.run(g, "apart e d;");
        Kit.due("promise 36: 5 groups", g.shrink(), 5);
        int events = g.events();
        String before = Kit.parts(g);
        int changed = g.placeBest();
        int due = 0;
        for (int group = 0; group < 5; group++) {
            due += before.charAt(Integer.numberOfTrailingZeros(g.group(group, 0))) - '0' == g.group(group, 2) ? 0 : 1;
        }
        Kit.due("promise 41: as many as have another part now", changed, due);
        Kit.due("term 6: as many events", g.events() - events, due);
        Kit.due("promise 41: again", g.placeBest(), 0);
    }

    private static void bestOfFew() {
        ShareGraph none = new ShareGraph();
        Kit.due("promise 30: no groups", none.bestDebts(), 0);
        Kit.due("promise 31: no groups", none.bestCut(), 0);
        Kit.due("promise 41: no groups", none.placeBest(), 0);
        Kit.due("promise 46: can be undone", none.undo(), 0);
        ShareGraph one = Kit.read("vertex a 7;parts 4;");
        Kit.due("promise 30: one group", one.bestDebts(), 5);
        Kit.due("promise 41: it stays", one.placeBest(), 0);
        one.move(0, 3);
        Kit.due("promise 41: it comes to part 0", one.placeBest(), 1);
        Kit.due("term 4: part 0", one.partOf(0), 0);
    }

    /** Promise 41: how many groups changed, and neither debts nor the credit keep one where it is. */
    private static void placeBestMoves() {
        ShareGraph g = Kit.read("vertex a 5;vertex b 5;vertex c 5;vertex d 5;edge a d 1;edge b c 1;parts 2;");
        Kit.due("promise 41: b and c", g.placeBest(), 2);
        Kit.due("term 4: a d, b c", Kit.parts(g), "0110");
        Kit.due("promise 41: again", g.placeBest(), 0);
        ShareGraph turned = Kit.read("vertex a 5;vertex b 5;");
        turned.move(0, 1);
        // each move alone would make debts of 5
        Kit.due("term 4: a could not be moved", turned.whyNotMove(0, 0), 2);
        Kit.due("term 4: b could not be moved", turned.whyNotMove(1, 1), 2);
        Kit.due("promise 41: both are", turned.placeBest(), 2);
        Kit.due("term 4: their parts", Kit.parts(turned), "01");
    }
}
