/** record: the number of a record. */
public final class Promise08Test {
    public static void main(String[] args) {
        Due due = new Due();
        ZoneTree tree = Build.threeZones();
        tree.put(11, Build.VALUE, 0, 1);
        tree.put(110, Build.VALUE, 7, 1);
        tree.put(13, Build.ALIAS, 9999, 1);
        tree.put(14, Build.TREE, 0, 1);
        tree.put(12, Build.TRUST, 996, 1);
        tree.put(121, Build.VALUE, 8, 1);
        due.is("update", tree.update(1), true);
        due.is("VALUE", tree.record(1, 11, Build.VALUE), 0);
        due.is("at a star", tree.record(1, 110, Build.VALUE), 7);
        due.is("ALIAS", tree.record(1, 13, Build.ALIAS), 9999);
        due.is("TREE", tree.record(1, 14, Build.TREE), 0);
        due.is("CUT", tree.record(1, 12, Build.CUT), 2);
        due.is("TRUST", tree.record(1, 12, Build.TRUST), 996);
        due.is("under a CUT", tree.record(1, 121, Build.VALUE), 8);
        due.is("another sort", tree.record(1, 11, Build.ALIAS), Build.NONE);
        due.is("a star stands for none here", tree.record(1, 111, Build.VALUE), Build.NONE);
        due.is("another zone", tree.record(2, 121, Build.VALUE), Build.NONE);
        due.is("not under its apex", tree.record(2, 5, Build.VALUE), Build.NONE);
        due.is("the top", tree.record(0, 0, Build.VALUE), Build.NONE);
        tree.bringUp(1);
        Build.put(tree, 1, 11, Build.VALUE, 5, 1);
        tree.setDead(1, true);
        due.is("of the zone, not of the copy", tree.record(1, 11, Build.VALUE), 5);
        for (int name : new int[] {-1, 100, 101, 1010, 10000, Integer.MIN_VALUE}) {
            due.fails("name " + name, Build.OUT_OF_RANGE, () -> tree.record(0, name, 0));
        }
        due.fails("sort -1", Build.OUT_OF_RANGE, () -> tree.record(0, 1, -1));
        due.fails("sort 5", Build.OUT_OF_RANGE, () -> tree.record(0, 1, 5));
        due.fails("no zone", Build.NO_ZONE, () -> tree.record(3, 1, 0));
        due.fails("no zone first", Build.NO_ZONE, () -> tree.record(-1, 101, 9));
        due.end();
    }
}
