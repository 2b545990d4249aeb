/** zone: makes a zone, and returns its number. */
public final class Promise02Test {
    public static void main(String[] args) {
        Due due = new Due();
        ZoneTree tree = new ZoneTree();
        due.is("zone(1, 1)", tree.zone(1, 1), 1);
        due.is("zone(9999, 50)", tree.zone(9999, 50), 2);
        due.is("apex of 1", tree.zoneHas(1, 0), 1);
        due.is("apex of 2", tree.zoneHas(2, 0), 9999);
        due.is("serial of 2", tree.zoneHas(2, 1), 0);
        due.is("copy of 2", tree.zoneHas(2, 3), Build.NONE);
        due.is("ask(1, 12, VALUE)", tree.ask(1, 12, Build.VALUE), Build.NO_NAME);
        due.is("the life of 1", tree.told(2), 1);
        tree.ask(2, 9999, Build.VALUE);
        due.is("the life of 2", tree.told(2), 50);
        outOfRange(due, tree);
        due.fails("a name that has one", Build.NOT_NOW, () -> tree.zone(1, 7));
        due.is("what throws makes none", tree.zone(2, 7), 3);
        due.is("zone(21, 7)", tree.zone(21, 7), 4);
        due.is("zone(211, 7)", tree.zone(211, 7), 5);
        due.fails("the 7th", Build.NOT_NOW, () -> tree.zone(3, 7));
        due.fails("out of range first, though there are 6", Build.OUT_OF_RANGE, () -> tree.zone(0, 7));
        due.fails("the 7th is not there", Build.NO_ZONE, () -> tree.zoneHas(6, 0));
        due.is("the apex of one at that name stays", tree.zoneHas(1, 0), 1);
        tree.ask(1, 12, Build.VALUE);
        due.is("the life of one at that name stays", tree.told(2), 1);
        due.end();
    }

    private static void outOfRange(Due due, ZoneTree tree) {
        int[] apexes = {0, -1, 10, 101, 110, 1001, 1010, 9990, 10000, 11111, Integer.MIN_VALUE, Integer.MAX_VALUE};
        for (int apex : apexes) {
            due.fails("zone(" + apex + ", 5)", Build.OUT_OF_RANGE, () -> tree.zone(apex, 5));
        }
        int[] lives = {0, -1, 51, Integer.MIN_VALUE, Integer.MAX_VALUE};
        for (int life : lives) {
            due.fails("zone(3, " + life + ")", Build.OUT_OF_RANGE, () -> tree.zone(3, life));
            due.fails("out of range first: zone(1, " + life + ")", Build.OUT_OF_RANGE, () -> tree.zone(1, life));
        }
    }
}
