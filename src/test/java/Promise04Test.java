/** put: tells a change of the next update, to put a record. */
public final class Promise04Test {
    public static void main(String[] args) {
        Due due = new Due();
        counts(due);
        numbers(due);
        inPlace(due);
        due.end();
    }

    private static void counts(Due due) {
        ZoneTree tree = new ZoneTree();
        for (int i = 1; i <= 9; i++) {
            due.is("put " + i, tree.put(i, 0, i, i), i);
        }
        due.is("put at a star", tree.put(10, 0, 1, 50), 10);
        due.fails("the 11th", Build.NOT_NOW, () -> tree.put(1, 0, 1, 1));
        due.fails("out of range first", Build.OUT_OF_RANGE, () -> tree.put(1, 0, 100, 1));
        due.is("not done until the update", tree.zoneHas(0, 2), 0);
        due.is("update", tree.update(0), true);
        due.is("10 records", tree.zoneHas(0, 2), 10);
        due.is("a new count", tree.put(1, 0, 2, 1), 1);
        due.is("with conditions", tree.need(1, 0, true), 2);
        due.is("with drops", tree.drop(1, 0), 3);
    }

    private static void numbers(Due due) {
        ZoneTree tree = new ZoneTree();
        int[][] right = {{0, 0}, {0, 99}, {1, 0}, {1, 9999}, {2, 0}, {2, 1234}, {3, 0}, {3, 5}, {4, 0}, {4, 996}};
        for (int i = 0; i < right.length; i++) {
            due.is("put of sort " + right[i][0] + " " + right[i][1], tree.put(1, right[i][0], right[i][1], 50), i + 1);
        }
        tree.update(0);
        int[][] wrong = {{0, -1}, {0, 100}, {1, -1}, {1, 10}, {1, 101}, {1, 10000}, {2, 20}, {2, 9990}, {2, -1},
            {3, -1}, {3, 6}, {4, -1}, {4, 997}, {5, 1}, {-1, 1}, {0, Integer.MIN_VALUE}, {4, Integer.MAX_VALUE}};
        for (int[] pair : wrong) {
            due.fails("put of sort " + pair[0] + " " + pair[1], Build.OUT_OF_RANGE,
                () -> tree.put(1, pair[0], pair[1], 1));
        }
        for (int name : new int[] {-1, 100, 101, 1001, 10000, 12340}) {
            due.fails("put at " + name, Build.OUT_OF_RANGE, () -> tree.put(name, 0, 1, 1));
        }
        for (int life : new int[] {0, -1, 51}) {
            due.fails("a life of " + life, Build.OUT_OF_RANGE, () -> tree.put(1, 0, 1, life));
        }
        due.is("what throws tells nothing", tree.put(1230, 0, 1, 1), 1);
    }

    private static void inPlace(Due due) {
        ZoneTree tree = new ZoneTree();
        Build.put(tree, 0, 1, Build.VALUE, 5, 6);
        tree.put(1, Build.VALUE, 7, 8);
        tree.put(1, Build.VALUE, 9, 4);
        due.is("update", tree.update(0), true);
        due.is("in place of one", tree.zoneHas(0, 2), 1);
        due.is("the later one", tree.record(0, 1, Build.VALUE), 9);
        tree.ask(0, 1, Build.VALUE);
        due.is("with its life", tree.told(2), 4);
    }
}
