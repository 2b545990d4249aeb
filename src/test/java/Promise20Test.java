/** setAnchor: the anchor of the resolver. */
public final class Promise20Test {
    public static void main(String[] args) {
        Due due = new Due();
        ZoneTree tree = new ZoneTree();
        due.is("none at first", tree.setAnchor(0), Build.NONE);
        due.is("the anchor before", tree.setAnchor(99), 0);
        for (int key : new int[] {-2, 100, Integer.MIN_VALUE, Integer.MAX_VALUE}) {
            due.fails("setAnchor(" + key + ")", Build.OUT_OF_RANGE, () -> tree.setAnchor(key));
        }
        due.is("what throws sets none", tree.setAnchor(Build.NONE), 99);
        due.is("none again", tree.setAnchor(5), Build.NONE);
        tree.setKey(0, 0, 5);
        due.is("the zone 0 is good for it", tree.trust(5, 0), ZoneTree.SECURE);
        tree.setAnchor(6);
        due.is("not for another one", tree.trust(5, 0), ZoneTree.BOGUS);
        tree.setAnchor(Build.NONE);
        due.is("without one", tree.trust(5, 0), ZoneTree.INSECURE);
        due.end();
    }
}
