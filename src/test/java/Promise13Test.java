/** neighbour: the names and stars that are there, and the zone's own, in their order. */
public final class Promise13Test {
    public static void main(String[] args) {
        Due due = new Due();
        ZoneTree tree = new ZoneTree();
        tree.zone(1, 5);
        tree.zone(13, 5);
        due.is("nothing is there, ahead", tree.neighbour(1, 5, false), Build.NONE);
        due.is("nothing is there, behind", tree.neighbour(1, 0, true), Build.NONE);
        tree.put(120, Build.VALUE, 1, 1);
        tree.put(1234, Build.VALUE, 1, 1);
        tree.put(13, Build.CUT, 2, 1);
        tree.put(131, Build.VALUE, 1, 1);
        tree.put(130, Build.VALUE, 1, 1);
        tree.put(19, Build.VALUE, 1, 1);
        tree.put(110, Build.VALUE, 1, 1);
        due.is("update", tree.update(1), true);
        int[] order = {1, 11, 110, 12, 120, 123, 1234, 13, 19};
        for (int i = 0; i < order.length; i++) {
            int next = i + 1 < order.length ? order[i + 1] : Build.NONE;
            due.is("neighbour not behind " + order[i], tree.neighbour(1, order[i], false), order[i]);
            due.is("neighbour behind " + order[i], tree.neighbour(1, order[i], true), next);
        }
        int[][] between = {{0, -1, 1}, {10, 1, 11}, {111, 110, 12}, {1111, 110, 12}, {121, 120, 123}, {1219, 120, 123},
            {122, 120, 123}, {1230, 123, 1234}, {1231, 123, 1234}, {1235, 1234, 13}, {124, 1234, 13}, {130, 13, 19},
            {131, 13, 19}, {1999, 19, -1}, {190, 19, -1}, {2, 19, -1}, {9999, 19, -1}, {15, 13, 19}, {1100, 110, 12}};
        for (int[] row : between) {
            if (row[0] != 1100) {
                due.is("neighbour ahead of " + row[0], tree.neighbour(1, row[0], false), row[1]);
                due.is("neighbour behind " + row[0], tree.neighbour(1, row[0], true), row[2]);
            }
        }
        top(due);
        for (int name : new int[] {-1, 100, 1100, 101, 10000, 12340, Integer.MIN_VALUE, Integer.MAX_VALUE}) {
            due.fails("neighbour of " + name, Build.OUT_OF_RANGE, () -> tree.neighbour(1, name, true));
        }
        due.fails("no zone", Build.NO_ZONE, () -> tree.neighbour(3, 1, true));
        due.fails("no zone first", Build.NO_ZONE, () -> tree.neighbour(-1, 100, true));
        due.end();
    }

    private static void top(Due due) {
        ZoneTree tree = new ZoneTree();
        Build.put(tree, 0, 550, Build.VALUE, 1, 1);
        due.is("the top is there", tree.neighbour(0, 0, false), 0);
        due.is("behind the top", tree.neighbour(0, 0, true), 5);
        due.is("a star of the top's names", tree.neighbour(0, 50, false), 5);
        due.is("the star", tree.neighbour(0, 6, false), 550);
        tree.bringUp(0);
        Build.drop(tree, 0, 550, Build.VALUE);
        tree.setDead(0, true);
        due.is("of the zone, not of the copy", tree.neighbour(0, 9, false), Build.NONE);
    }
}
