/** Term 3, groups and levels, sentence by sentence, on both sides of each bound; with promises 22 to 25, 36 and 37. */
public final class Term3Test {
    private static final int NONE = ShareGraph.NONE;

    public static void main(String[] args) {
        levelZero();
        groupNumbers();
        groupWeights();
        joins();
        joinsOfFewGroups();
        joinsOfGroups();
        jointParts();
        mergedAlready();
        samePart();
        joinedByMore();
        weightAndLimit();
        joinedByMost();
        lowestOfSeveral();
        byNumber();
        staysAlone();
        levels();
        reasons();
        reasonsInOrder();
        mateAtLevel4();
        growsBack();
        growsBackOfMost();
        growsToLevelZero();
        groupsOfOtherTexts();
        Kit.end("Term3Test");
    }

    /** At level 0 each vertex is a group of its own. */
    private static void levelZero() {
        for (int count : new int[] {0, 1, 2, 13, 14}) {
            ShareGraph g = Kit.read(Kit.vertices(count) + "slack 99;");
            Kit.due("term 3: groups of level 0", g.setting(9), count);
            Kit.due("term 3: level 0", g.setting(8), 0);
            for (int vertex = 0; vertex < count; vertex++) {
                Kit.due("term 3: the group of a vertex", g.groupOf(vertex), vertex);
                Kit.due("term 3: its vertices", g.group(vertex, 0), 1 << vertex);
            }
        }
    }

    /** Groups are numbered from 0 by their lowest vertices. */
    private static void groupNumbers() {
        groups("0 and 3, 1 and 2", Kit.vertices(4) + "edge a d 2;edge b c 1;slack 9;", "0110", 2);
        groups("1 and 2, 0 and 3 alone", Kit.vertices(4) + "edge b c 1;slack 9;", "0112", 3);
        groups("0 and 1, 2 and 3", Kit.vertices(4) + "edge a b 1;edge c d 1;slack 9;", "0011", 2);
        groups("0 and 2, 1 and 3", Kit.vertices(4) + "edge a c 1;edge b d 1;slack 9;", "0101", 2);
        groups("2 and 3", Kit.vertices(4) + "edge c d 1;slack 9;", "0122", 3);
        groups("1 and 4", Kit.vertices(5) + "edge e b 1;slack 9;", "01231", 4);
        ShareGraph g = Kit.read(Kit.vertices(6) + "edge b f 9;edge c d 8;edge d b 2;slack 9;");
        g.shrink();
        Kit.due("term 3: level 1", Kit.groups(g), "012231");
        g.shrink();
        Kit.due("term 3: level 2", Kit.groups(g), "011121");
        int[] sets = {1, 46, 16};
        for (int group = 0; group < 3; group++) {
            Kit.due("promise 22: group " + group + " of level 2", g.group(group, 0), sets[group]);
        }
    }

    private static void groups(String what, String text, String due, int count) {
        ShareGraph g = Kit.read(text);
        Kit.due("promise 36: " + what + ", the number of groups", g.shrink(), count);
        Kit.due("term 3: " + what, Kit.groups(g), due);
        Kit.due("promise 7: " + what + ", groups", g.setting(9), count);
        int last = count;
        Kit.refuses("promise 22: " + what + ", no group " + last, Kit.INDEX, g, () -> g.group(last, 0));
    }

    /** The weight of a group is that of its vertices. */
    private static void groupWeights() {
        ShareGraph g = Kit.read("vertex a 1;vertex b 2;vertex c 4;vertex d 99;edge a c 1;slack 99;");
        Kit.due("term 3: weight of a", g.group(0, 1), 1);
        g.shrink();
        Kit.due("term 3: weight of a and c", g.group(0, 1), 5);
        Kit.due("term 3: weight of b", g.group(1, 1), 2);
        Kit.due("term 3: weight of d", g.group(2, 1), 99);
    }

    /** Promise 22: the sum of what joins it to all other groups, in any part. */
    private static void joins() {
        int[] due = {11, 31, 40, 0};
        for (int parts = 2; parts <= 4; parts++) {
            ShareGraph g = Kit.read(Kit.vertices(4) + "edge a b 1;edge c a 10;edge b c 30;credit 99;slack 9;parts "
                + parts + ";");
            for (int group = 0; group < 4; group++) {
                Kit.due("promise 22: joins of " + group, g.group(group, 3), due[group]);
            }
            g.move(0, parts - 1);
            g.move(3, 1);
            for (int group = 0; group < 4; group++) {
                Kit.due("promise 22: joins of " + group + " in other parts", g.group(group, 3), due[group]);
            }
            Kit.due("promise 22: part of 0", g.group(0, 2), parts - 1);
            Kit.due("promise 22: part of 2", g.group(2, 2), 0);
            Kit.due("promise 22: part of 3", g.group(3, 2), 1);
        }
    }

    /** Of fewer groups than parts, too. */
    private static void joinsOfFewGroups() {
        for (int part = 0; part < 4; part++) {
            ShareGraph g = Kit.read(Kit.vertices(2) + "edge a b 7;credit 99;parts 4;");
            if (part > 0) {
                g.move(1, part);
            }
            Kit.due("promise 22: joins of a to b in part " + part, g.group(0, 3), 7);
            Kit.due("promise 22: joins of b in part " + part + " to a", g.group(1, 3), 7);
        }
    }

    /** Two groups are joined by the sum of the weights of all edges between them; edges within are nothing to it. */
    private static void joinsOfGroups() {
        ShareGraph g = Kit.read(Kit.vertices(5) + "edge a b 9;edge c d 8;edge a c 1;edge d b 2;edge a d 3;edge e a 5;"
            + "slack 9;");
        g.shrink();
        Kit.due("term 3: a b, c d, e", Kit.groups(g), "00112");
        Kit.due("promise 22: 1 and 2 and 3, and 5", g.group(0, 3), 11);
        Kit.due("promise 22: 1 and 2 and 3", g.group(1, 3), 6);
        Kit.due("promise 22: 5", g.group(2, 3), 5);
        Kit.due("promise 26: what joins it to its own part is lost", g.gain(0, 1), -11);
        // 6 by three edges is more than 5 by one
        Kit.due("promise 25: the sum counts", g.mate(0), 1);
        g.shrink();
        Kit.due("term 3: the sum counts", Kit.groups(g), "00001");
    }

    /** All vertices of a group are in one part. */
    private static void jointParts() {
        ShareGraph g = Kit.read(Kit.SQUARE + "slack 9;credit 99;");
        g.shrink();
        g.move(0, 1);
        Kit.due("term 3: both vertices are moved", Kit.parts(g), "1100");
        g.step();
        Kit.due("term 3: both vertices step", Kit.parts(g), "0000");
        g.move(1, 1);
        Kit.due("term 3: the part of the group", g.group(1, 2), 1);
        g.placeBest();
        Kit.due("term 3: both vertices are placed", Kit.parts(g), "0000");
    }

    /** Each one that is not merged yet is merged with one behind it that is not merged yet. */
    private static void mergedAlready() {
        ShareGraph g = Kit.read(Kit.vertices(4) + "edge a b 1;edge b c 9;edge c d 2;slack 9;");
        Kit.due("term 3: b is merged with a already", g.mate(1), 0);
        Kit.due("term 3: c is left to d", g.mate(2), 3);
        Kit.due("term 3: and d to c", g.mate(3), 2);
        ShareGraph h = Kit.read(Kit.vertices(3) + "edge a c 1;edge b c 9;slack 9;");
        Kit.due("term 3: c is merged with a already", h.mate(1), NONE);
        Kit.due("term 3: a", h.mate(0), 2);
        Kit.due("term 3: c", h.mate(2), 0);
        h.shrink();
        Kit.due("term 3: b alone", Kit.groups(h), "010");
        Kit.due("term 3: at the next level", h.mate(0), 1);
    }

    /** It is in the same part. */
    private static void samePart() {
        ShareGraph g = Kit.read(Kit.vertices(4) + "edge a b 9;edge a c 5;edge b d 4;slack 9;credit 99;parts 3;");
        Kit.due("term 3: all in part 0", g.mate(0) * 10 + Math.max(g.mate(2), 0), 10);
        g.move(1, 2);
        Kit.due("term 3: b in part 2, a with c", g.mate(0), 2);
        Kit.due("term 3: b and d apart", g.mate(1), NONE);
        g.move(3, 2);
        Kit.due("term 3: b and d in part 2", g.mate(1), 3);
        g.shrink();
        Kit.due("term 3: groups of both parts", Kit.groups(g), "0101");
        Kit.due("term 3: parts stay", Kit.parts(g), "0202");
        Kit.due("term 3: the groups are apart", g.whyNotShrink(), 2);
        g.move(0, 2);
        Kit.due("term 3: the groups are together", g.whyNotShrink(), 0);
    }

    /** It is joined to it by more than 0. */
    private static void joinedByMore() {
        ShareGraph none = Kit.read(Kit.vertices(3) + "slack 99;");
        Kit.due("term 3: joined by 0", none.mate(0), NONE);
        Kit.due("term 3: no two groups", none.whyNotShrink(), 2);
        ShareGraph one = Kit.read(Kit.vertices(3) + "edge b c 1;slack 99;");
        Kit.due("term 3: joined by 1", one.mate(1), 2);
        Kit.due("term 3: a is joined to none", one.mate(0), NONE);
        Kit.due("term 3: two groups", one.whyNotShrink(), 0);
    }

    /** Its weight with the other one is not above the limit. */
    private static void weightAndLimit() {
        String text = "vertex a 3;vertex b 4;edge a b 1;";
        Kit.due("term 3: 7 of a limit of 6", Kit.read(text + "slack 2;").mate(0), NONE);
        Kit.due("term 3: 7 of a limit of 6", Kit.read(text + "slack 2;").whyNotShrink(), 2);
        Kit.due("term 3: 7 of a limit of 7", Kit.read(text + "slack 3;").mate(0), 1);
        Kit.due("term 3: 7 of a limit of 7", Kit.read(text + "slack 3;").whyNotShrink(), 0);
        Kit.due("term 3: 7 of a limit of 8", Kit.read(text + "slack 4;").mate(0), 1);
        Kit.due("term 3: the credit does not help", Kit.read(text + "slack 2;credit 99;").mate(0), NONE);
        // b is too heavy for a, so c is taken, which is joined by less
        ShareGraph g = Kit.read("vertex a 3;vertex b 4;vertex c 3;vertex d 1;edge a b 9;edge a c 2;edge b d 1;");
        Kit.due("term 3: the limit", g.setting(5), 6);
        Kit.due("term 3: 7 of 6 is above, 6 is not", g.mate(0), 2);
        Kit.due("term 3: b is left to d", g.mate(1), 3);
        // groups of more than one vertex
        ShareGraph level = Kit.read("vertex a 2;vertex b 2;vertex c 3;edge a b 9;edge b c 1;slack 2;");
        Kit.due("term 3: 4 of a limit of 6", level.shrink(), 2);
        Kit.due("term 3: 7 of a limit of 6", level.whyNotShrink(), 2);
        ShareGraph wide = Kit.read("vertex a 2;vertex b 2;vertex c 3;edge a b 9;edge b c 1;slack 3;");
        Kit.due("term 3: 4 of a limit of 7", wide.shrink(), 2);
        Kit.due("term 3: 7 of a limit of 7", wide.whyNotShrink(), 0);
    }

    /** The one to which it is joined by most. */
    private static void joinedByMost() {
        for (int most = 1; most < 14; most++) {
            StringBuilder text = new StringBuilder(Kit.vertices(14) + "slack 99;");
            for (int other = 1; other < 14; other++) {
                text.append("edge a ").append((char) ('a' + other)).append(other == most ? " 6;" : " 5;");
            }
            ShareGraph g = Kit.read(text.toString());
            Kit.due("term 3: joined by most to " + most, g.mate(0), most);
            Kit.due("term 3: and it to a", g.mate(most), 0);
        }
    }

    /** The lowest one of several. */
    private static void lowestOfSeveral() {
        ShareGraph g = Kit.read(Kit.vertices(5) + "edge a e 5;edge a d 5;edge a c 5;edge a b 4;slack 99;");
        Kit.due("term 3: c, d or e", g.mate(0), 2);
        ShareGraph h = Kit.read(Kit.vertices(5) + "edge a c 5;edge a d 5;edge a e 5;edge a b 4;slack 99;");
        Kit.due("term 3: told the other way", h.mate(0), 2);
        h.move(2, 1);
        Kit.due("term 3: c is away", h.mate(0), 3);
        ShareGraph heavy = Kit.read("vertex a 1;vertex b 9;vertex c 2;vertex d 2;edge a b 5;edge a d 5;edge a c 5;");
        Kit.due("term 3: b is too heavy", heavy.mate(0), 2);
    }

    /** The groups are gone through by number. */
    private static void byNumber() {
        ShareGraph g = Kit.read(Kit.vertices(4) + "edge a b 1;edge b c 99;edge a d 2;slack 99;");
        Kit.due("term 3: a chooses first", g.mate(0), 3);
        Kit.due("term 3: then b", g.mate(1), 2);
        ShareGraph h = Kit.read(Kit.vertices(4) + "edge a c 1;edge c d 99;edge b c 50;slack 99;");
        h.shrink();
        Kit.due("term 3: a takes c, b and d are alone", Kit.groups(h), "0102");
    }

    /** It stays alone if there is none. */
    private static void staysAlone() {
        ShareGraph g = Kit.read(Kit.vertices(5) + "edge b d 1;slack 9;");
        int[] due = {NONE, 3, NONE, 1, NONE};
        for (int group = 0; group < 5; group++) {
            Kit.due("promise 25: mate of " + group, g.mate(group), due[group]);
        }
        Kit.due("promise 25: one vertex", Kit.read("vertex a 1;slack 9;").mate(0), NONE);
        g.shrink();
        for (int group = 0; group < 4; group++) {
            Kit.due("promise 25: all are alone", g.mate(group), NONE);
        }
    }

    /** A level more begins; 1: the level is 4 already. */
    private static void levels() {
        ShareGraph g = Kit.read(GroupsTest.STAR);
        for (int level = 0; level < 4; level++) {
            Kit.due("term 3: no reason at level " + level, g.whyNotShrink(), 0);
            Kit.due("promise 36: groups", g.shrink(), 6 - level);
            Kit.due("term 3: a level more", g.setting(8), level + 1);
        }
        Kit.due("term 3: level 4", g.whyNotShrink(), 1);
        Kit.refuses("promise 36: level 4", Kit.STATE, g, g::shrink);
        g.grow();
        Kit.due("term 3: level 3 again", g.whyNotShrink(), 0);
        Kit.due("promise 36: level 4 again", g.shrink(), 3);
        Kit.due("term 3: level 4", g.setting(8), 4);
    }

    /** 2: no two groups would be merged. */
    private static void reasons() {
        Kit.due("promise 24: no vertices", new ShareGraph().whyNotShrink(), 2);
        Kit.due("promise 24: one vertex", Kit.read("vertex a 1;slack 9;").whyNotShrink(), 2);
        Kit.due("promise 24: no edge", Kit.read(Kit.vertices(2) + "slack 9;").whyNotShrink(), 2);
        Kit.due("promise 24: an edge", Kit.read(Kit.vertices(2) + "edge a b 1;slack 9;").whyNotShrink(), 0);
        Kit.due("promise 24: too heavy", Kit.read(Kit.vertices(2) + "edge a b 1;").whyNotShrink(), 2);
        Kit.due("promise 24: just light enough", Kit.read(Kit.vertices(2) + "edge a b 1;slack 1;").whyNotShrink(), 0);
        ShareGraph one = Kit.read(Kit.vertices(2) + "edge a b 1;slack 1;");
        one.shrink();
        Kit.due("promise 24: one group", one.whyNotShrink(), 2);
        Kit.refuses("promise 36: one group", Kit.STATE, one, one::shrink);
    }

    /** The lowest reason is told. */
    private static void reasonsInOrder() {
        ShareGraph g = Kit.read(Kit.vertices(5) + "edge a b 9;edge a c 8;edge a d 7;edge a e 6;slack 9;");
        for (int level = 0; level < 4; level++) {
            g.shrink();
        }
        Kit.due("promise 24: one group at level 4", g.setting(9), 1);
        Kit.due("promise 24: both reasons", g.whyNotShrink(), 1);
        Kit.due("promise 25: no mate at level 4", g.mate(0), NONE);
    }

    /** Promise 25: also at level 4, as if one could. */
    private static void mateAtLevel4() {
        ShareGraph g = Kit.read(GroupsTest.STAR);
        Kit.run(g, "shrink;shrink;shrink;shrink;");
        Kit.due("term 3: groups of level 4", Kit.groups(g), "0120000");
        Kit.due("promise 25: of level 4", g.mate(0), 2);
        Kit.due("promise 25: of level 4", g.mate(1), NONE);
        Kit.due("promise 25: of level 4", g.mate(2), 0);
        g.move(2, 1);
        Kit.due("promise 25: in another part", g.mate(0), 1);
    }

    /** To grow means to go back to the groups of the level before; each vertex stays in its part. */
    private static void growsBack() {
        ShareGraph g = Kit.read(GroupsTest.STAR + "credit 99;");
        String[] groups = {"0123456", "0123450", "0123400", "0123000", "0120000"};
        Kit.run(g, "shrink;shrink;shrink;shrink;move 0 1;");
        for (int level = 3; level >= 0; level--) {
            Kit.due("promise 37: groups", g.grow(), 7 - level);
            Kit.due("term 3: groups of level " + level, Kit.groups(g), groups[level]);
            Kit.due("term 3: each vertex stays in its part", Kit.parts(g), "1001111");
            Kit.due("promise 7: level", g.setting(8), level);
        }
        // other groups than before, as the parts are others now
        Kit.due("promise 36: a and g again", g.shrink(), 6);
        g.grow();
        g.move(6, 0);
        g.shrink();
        Kit.due("term 3: a and f", Kit.groups(g), "0123405");
        g.grow();
        Kit.due("term 3: the groups of level 0 stay", Kit.groups(g), "0123456");
    }

    private static void growsBackOfMost() {
        ShareGraph g = Kit.read(Kit.vertices(14) + "edge a n 9;edge b m 8;edge c l 7;edge m l 2;edge n k 1;slack 99;");
        String[] groups = {"012345678910111213", "012345678910210", "01123456780110"};
        for (int level = 1; level <= 2; level++) {
            g.shrink();
            Kit.due("term 3: 14 vertices at level " + level, Kit.groups(g), groups[level]);
        }
        for (int level = 1; level >= 0; level--) {
            g.grow();
            Kit.due("term 3: 14 vertices at level " + level + " again", Kit.groups(g), groups[level]);
        }
    }

    private static void growsToLevelZero() {
        ShareGraph g = Kit.read(GroupsTest.STAR);
        Kit.refuses("promise 37: level 0", Kit.STATE, g, g::grow);
        g.shrink();
        Kit.due("promise 37: level 1", g.grow(), 7);
        Kit.refuses("promise 37: level 0 again", Kit.STATE, g, g::grow);
        Kit.refuses("promise 37: a new object", Kit.STATE, new ShareGraph(), () -> new ShareGraph().grow());
    }

    /** The groups of one text are nothing to the next one. */
    private static void groupsOfOtherTexts() {
        ShareGraph g = Kit.read(GroupsTest.STAR);
        Kit.run(g, "shrink;shrink;");
        Kit.feed(g, Kit.vertices(3) + "edge a b 1;slack 9;");
        g.readText();
        Kit.due("term 3: groups of the next text", Kit.groups(g), "012");
        Kit.due("term 3: its level", g.setting(8), 0);
        Kit.refuses("promise 37: its level", Kit.STATE, g, g::grow);
        Kit.due("promise 36: its groups", g.shrink(), 2);
        Kit.due("term 3: its groups", Kit.groups(g), "001");
    }
}
