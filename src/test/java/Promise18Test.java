/** setKey: a key of a zone. */
public final class Promise18Test {
    public static void main(String[] args) {
        Due due = new Due();
        ZoneTree tree = new ZoneTree();
        tree.zone(1, 5);
        due.is("none before", tree.setKey(0, 0, 0), Build.NONE);
        due.is("another slot", tree.setKey(0, 1, 99), Build.NONE);
        due.is("the key before", tree.setKey(0, 0, 5), 0);
        due.is("that of the other slot", tree.setKey(0, 1, Build.NONE), 99);
        due.is("none again", tree.setKey(0, 1, 6), Build.NONE);
        due.is("another zone", tree.setKey(1, 0, 7), Build.NONE);
        for (int key : new int[] {-2, 100, Integer.MIN_VALUE, Integer.MAX_VALUE}) {
            due.fails("key " + key, Build.OUT_OF_RANGE, () -> tree.setKey(0, 0, key));
        }
        for (int slot : new int[] {-1, 2, Integer.MIN_VALUE, Integer.MAX_VALUE}) {
            due.fails("slot " + slot, Build.OUT_OF_RANGE, () -> tree.setKey(0, slot, 1));
            due.fails("no zone first", Build.NO_ZONE, () -> tree.setKey(2, slot, 1));
        }
        due.fails("zone -1", Build.NO_ZONE, () -> tree.setKey(-1, 0, 1));
        due.is("what throws sets none", tree.setKey(0, 0, 8), 5);
        tree.setAnchor(6);
        due.is("good by the second key", tree.trust(5, 0), ZoneTree.SECURE);
        tree.setAnchor(8);
        due.is("good by the first key", tree.trust(5, 0), ZoneTree.SECURE);
        tree.setKey(0, 0, Build.NONE);
        due.is("not good any more", tree.trust(5, 0), ZoneTree.BOGUS);
        due.end();
    }
}
