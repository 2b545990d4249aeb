/** drop: tells a change of the next update, to drop a record. */
public final class Promise05Test {
    public static void main(String[] args) {
        Due due = new Due();
        ZoneTree tree = new ZoneTree();
        Build.put(tree, 0, 1, Build.VALUE, 5, 6);
        Build.put(tree, 0, 1, Build.TREE, 2, 6);
        Build.put(tree, 0, 30, Build.VALUE, 7, 6);
        due.is("drop tells", tree.drop(1, Build.VALUE), 1);
        due.is("not done until the update", tree.record(0, 1, Build.VALUE), 5);
        due.is("update", tree.update(0), true);
        due.is("gone", tree.record(0, 1, Build.VALUE), Build.NONE);
        due.is("the other sort stays", tree.record(0, 1, Build.TREE), 2);
        due.is("the star stays", tree.record(0, 30, Build.VALUE), 7);
        due.is("not there any more", Build.drop(tree, 0, 1, Build.VALUE), false);
        due.is("the name of the star", Build.drop(tree, 0, 3, Build.VALUE), false);
        due.is("a star", Build.drop(tree, 0, 30, Build.VALUE), true);
        tree.put(5, Build.VALUE, 1, 1);
        tree.drop(5, Build.VALUE);
        due.is("what was put just before", tree.update(0), true);
        due.is("is gone", tree.record(0, 5, Build.VALUE), Build.NONE);
        tree.drop(5, Build.VALUE);
        tree.put(5, Build.VALUE, 1, 1);
        due.is("what is put only then", tree.update(0), false);
        tree.drop(1, Build.TREE);
        tree.drop(1, Build.TREE);
        due.is("twice", tree.update(0), false);
        due.is("nothing is done", tree.record(0, 1, Build.TREE), 2);
        wrong(due, tree);
        theOthers(due);
        due.end();
    }

    private static void theOthers(Due due) {
        ZoneTree tree = new ZoneTree();
        for (int i = 1; i <= 5; i++) {
            tree.put(i, Build.VALUE, 10 + i, 20 + i);
        }
        tree.update(0);
        due.is("the first of five", Build.drop(tree, 0, 1, Build.VALUE), true);
        for (int i = 2; i <= 5; i++) {
            tree.ask(0, i, Build.VALUE);
            Build.told(due, "the others stay as they are", tree, 10 + i, i, 20 + i);
        }
        due.is("the last one", Build.drop(tree, 0, 5, Build.VALUE), true);
        due.is("three", tree.zoneHas(0, 2), 3);
        due.is("as they are", tree.record(0, 4, Build.VALUE), 14);
    }

    private static void wrong(Due due, ZoneTree tree) {
        for (int name : new int[] {-1, 100, 101, 1001, 10000, 12340, Integer.MIN_VALUE}) {
            due.fails("drop at " + name, Build.OUT_OF_RANGE, () -> tree.drop(name, 0));
        }
        due.fails("sort 5", Build.OUT_OF_RANGE, () -> tree.drop(1, 5));
        due.fails("sort -1", Build.OUT_OF_RANGE, () -> tree.drop(1, -1));
        for (int i = 1; i <= 10; i++) {
            due.is("drop " + i, tree.drop(0, i % 5), i);
        }
        due.fails("the 11th", Build.NOT_NOW, () -> tree.drop(1, 0));
        due.fails("the 11th, a name out of range", Build.OUT_OF_RANGE, () -> tree.drop(100, 0));
        due.fails("the 11th, a sort out of range", Build.OUT_OF_RANGE, () -> tree.drop(1, 5));
    }
}
