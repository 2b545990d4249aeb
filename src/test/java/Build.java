/** Short ways to tell and do updates, for tests that are about something else. */
final class Build {
    static final int NONE = ZoneTree.NONE;
    static final int VALUE = ZoneTree.VALUE, ALIAS = ZoneTree.ALIAS, TREE = ZoneTree.TREE;
    static final int CUT = ZoneTree.CUT, TRUST = ZoneTree.TRUST;
    static final int FOUND = ZoneTree.FOUND, NO_DATA = ZoneTree.NO_DATA, NO_NAME = ZoneTree.NO_NAME;
    static final int REFERRED = ZoneTree.REFERRED, LED = ZoneTree.LED, LOST = ZoneTree.LOST, FAILED = ZoneTree.FAILED;

    static final Class<IndexOutOfBoundsException> NO_ZONE = IndexOutOfBoundsException.class;
    static final Class<IllegalArgumentException> OUT_OF_RANGE = IllegalArgumentException.class;
    static final Class<IllegalStateException> NOT_NOW = IllegalStateException.class;

    private Build() { }

    /** One record put by an update of its own. */
    static boolean put(ZoneTree tree, int zone, int name, int sort, int number, int life) {
        tree.put(name, sort, number, life);
        return tree.update(zone);
    }

    static boolean drop(ZoneTree tree, int zone, int name, int sort) {
        tree.drop(name, sort);
        return tree.update(zone);
    }

    /** What told() tells: the number, name, life, questions, and whether it is old. */
    static void told(Due due, String call, ZoneTree tree, int... want) {
        for (int what = 0; what < want.length; what++) {
            due.is(call + ", told(" + what + ")", tree.told(what), want[what]);
        }
    }

    /** The zones 0, 1 at 1 and 2 at 12, each cut from the one above, lives of the CUTs 20 and 15. */
    static ZoneTree threeZones() {
        ZoneTree tree = new ZoneTree();
        tree.zone(1, 5);
        tree.zone(12, 7);
        put(tree, 0, 1, CUT, 1, 20);
        put(tree, 1, 12, CUT, 2, 15);
        return tree;
    }
}
