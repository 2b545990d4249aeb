/** setWindow: the window of a zone, both ends included. */
public final class Promise19Test {
    public static void main(String[] args) {
        Due due = new Due();
        ZoneTree tree = new ZoneTree();
        tree.setAnchor(1);
        tree.setKey(0, 0, 1);
        due.is("from 0 to 0 at first", tree.trust(5, 0), ZoneTree.SECURE);
        tree.pass(1);
        due.is("behind it", tree.trust(5, 0), ZoneTree.BOGUS);
        tree.setWindow(0, 2, 4);
        int[] want = {ZoneTree.BOGUS, ZoneTree.SECURE, ZoneTree.SECURE, ZoneTree.SECURE, ZoneTree.BOGUS};
        for (int i = 0; i < want.length; i++) {
            due.is("now " + (i + 1), tree.trust(5, 0), want[i]);
            tree.pass(1);
        }
        tree.setWindow(0, 0, 10000);
        due.is("the widest", tree.trust(5, 0), ZoneTree.SECURE);
        wrong(due, tree, 0, -1, 10, Build.OUT_OF_RANGE);
        wrong(due, tree, 0, 11, 10, Build.OUT_OF_RANGE);
        wrong(due, tree, 0, 0, 10001, Build.OUT_OF_RANGE);
        wrong(due, tree, 0, 10001, 10001, Build.OUT_OF_RANGE);
        wrong(due, tree, 0, 0, -1, Build.OUT_OF_RANGE);
        wrong(due, tree, 0, Integer.MIN_VALUE, Integer.MAX_VALUE, Build.OUT_OF_RANGE);
        wrong(due, tree, 1, 0, 10, Build.NO_ZONE);
        wrong(due, tree, -1, 5, 1, Build.NO_ZONE);
        due.is("what throws sets none", tree.trust(5, 0), ZoneTree.SECURE);
        tree.setWindow(0, 10000, 10000);
        due.is("from 10000", tree.trust(5, 0), ZoneTree.BOGUS);
        tree.setWindow(0, 6, 6);
        due.is("from 6 to 6", tree.trust(5, 0), ZoneTree.SECURE);
        due.end();
    }

    private static void wrong(Due due, ZoneTree tree, int zone, int from, int to,
            Class<? extends RuntimeException> want) {
        due.fails("setWindow(" + zone + ", " + from + ", " + to + ")", want, () -> {
            tree.setWindow(zone, from, to);
            return 0;
        });
    }
}
