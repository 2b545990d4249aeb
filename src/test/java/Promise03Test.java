/** need: tells a condition of the next update. */
public final class Promise03Test {
    public static void main(String[] args) {
        Due due = new Due();
        counts(due);
        conditions(due);
        due.end();
    }

    private static void counts(Due due) {
        ZoneTree tree = new ZoneTree();
        int[] names = {0, 1, 12, 123, 1234, 9999, 10, 120, 1230, 9990};
        for (int i = 0; i < names.length; i++) {
            due.is("need(" + names[i] + ")", tree.need(names[i], i % 5, i % 2 == 0), i + 1);
        }
        due.fails("the 11th", Build.NOT_NOW, () -> tree.need(1, 0, true));
        due.fails("a name out of range first", Build.OUT_OF_RANGE, () -> tree.need(101, 0, true));
        due.fails("a sort out of range first", Build.OUT_OF_RANGE, () -> tree.need(1, 5, true));
        due.is("not met", tree.update(0), false);
        due.is("told anew", tree.need(1, 0, false), 1);
        int[] wrong = {-1, -10, 100, 101, 1100, 1001, 10000, 10, 11110, Integer.MIN_VALUE, Integer.MAX_VALUE};
        for (int name : wrong) {
            if (name != 10) {
                due.fails("need(" + name + ")", Build.OUT_OF_RANGE, () -> tree.need(name, 0, false));
            }
        }
        due.fails("sort -1", Build.OUT_OF_RANGE, () -> tree.need(1, -1, false));
        due.fails("sort 5", Build.OUT_OF_RANGE, () -> tree.need(1, 5, false));
        due.is("what throws tells nothing", tree.need(2, 4, false), 2);
    }

    private static void conditions(Due due) {
        ZoneTree tree = new ZoneTree();
        tree.need(1, Build.VALUE, false);
        due.is("not there, as it has to be", Build.put(tree, 0, 1, Build.VALUE, 5, 5), true);
        tree.need(1, Build.VALUE, false);
        due.is("there against the condition", Build.put(tree, 0, 2, Build.VALUE, 5, 5), false);
        due.is("nothing is done", tree.record(0, 2, Build.VALUE), Build.NONE);
        tree.need(1, Build.VALUE, true);
        due.is("there, as it has to be", Build.put(tree, 0, 20, Build.VALUE, 5, 5), true);
        tree.need(1, Build.ALIAS, true);
        due.is("of another sort", tree.update(0), false);
        tree.need(10, Build.VALUE, true);
        due.is("at the star of it", tree.update(0), false);
        tree.need(2, Build.VALUE, true);
        due.is("at the name of a star", tree.update(0), false);
        tree.need(20, Build.VALUE, true);
        due.is("at a star", tree.update(0), true);
        tree.put(3, Build.VALUE, 1, 1);
        tree.need(3, Build.VALUE, true);
        due.is("by the records ahead of the update", tree.update(0), false);
        tree.drop(1, Build.VALUE);
        tree.need(1, Build.VALUE, true);
        due.is("what is dropped was there ahead", tree.update(0), true);
        due.is("it is gone", tree.record(0, 1, Build.VALUE), Build.NONE);
        tree.need(1, Build.VALUE, false);
        tree.need(20, Build.VALUE, true);
        tree.need(20, Build.VALUE, false);
        due.is("one of three is not met", tree.update(0), false);
    }
}
