/** zoneHas: apex, serial, records, serial of the copy, names of its own. */
public final class Promise07Test {
    public static void main(String[] args) {
        Due due = new Due();
        ZoneTree tree = Build.threeZones();
        due.is("apex", tree.zoneHas(2, 0), 12);
        due.is("serial", tree.zoneHas(1, 1), 1);
        due.is("records", tree.zoneHas(1, 2), 1);
        due.is("no copy", tree.zoneHas(1, 3), Build.NONE);
        tree.bringUp(2);
        due.is("a copy of serial 0", tree.zoneHas(2, 3), 0);
        tree.bringUp(1);
        Build.put(tree, 1, 11, 0, 1, 1);
        due.is("the serial", tree.zoneHas(1, 1), 2);
        due.is("the serial of the copy", tree.zoneHas(1, 3), 1);
        due.is("the records of the zone, not of the copy", tree.zoneHas(1, 2), 2);
        names(due);
        for (int what : new int[] {-1, 5, Integer.MIN_VALUE, Integer.MAX_VALUE}) {
            due.fails("what " + what, Build.OUT_OF_RANGE, () -> tree.zoneHas(0, what));
            due.fails("no zone first", Build.NO_ZONE, () -> tree.zoneHas(3, what));
        }
        due.fails("zone -1", Build.NO_ZONE, () -> tree.zoneHas(-1, 0));
        due.fails("zone 6", Build.NO_ZONE, () -> tree.zoneHas(6, 0));
        due.fails("a great number", Build.NO_ZONE, () -> tree.zoneHas(Integer.MAX_VALUE, 0));
        due.fails("a small number", Build.NO_ZONE, () -> tree.zoneHas(Integer.MIN_VALUE, 0));
        due.end();
    }

    private static void names(Due due) {
        ZoneTree tree = new ZoneTree();
        tree.zone(1, 5);
        tree.zone(12, 5);
        tree.zone(121, 5);
        due.is("none", tree.zoneHas(1, 4), 0);
        Build.put(tree, 1, 1345, 0, 1, 1);
        due.is("the names between are there, the top is not under the apex", tree.zoneHas(1, 4), 4);
        Build.put(tree, 1, 1360, 0, 1, 1);
        due.is("a star is no name, but that of it is", tree.zoneHas(1, 4), 5);
        Build.put(tree, 1, 1360, 1, 1, 1);
        Build.put(tree, 1, 134, 0, 1, 1);
        due.is("a name counts once", tree.zoneHas(1, 4), 5);
        Build.put(tree, 1, 12, Build.CUT, 2, 1);
        due.is("the name of a CUT is its own", tree.zoneHas(1, 4), 6);
        Build.put(tree, 1, 122, 0, 1, 1);
        Build.put(tree, 1, 1230, 0, 1, 1);
        due.is("what is under it is not", tree.zoneHas(1, 4), 6);
        Build.put(tree, 1, 121, Build.CUT, 3, 1);
        due.is("nor another CUT", tree.zoneHas(1, 4), 6);
        Build.drop(tree, 1, 12, Build.CUT);
        due.is("without the upper one", tree.zoneHas(1, 4), 9);
        Build.put(tree, 0, 120, 0, 1, 1);
        due.is("the top counts in the zone 0", tree.zoneHas(0, 4), 3);
    }
}
