/** update: does what is told, all or nothing. */
public final class Promise06Test {
    public static void main(String[] args) {
        Due due = new Due();
        serials(due);
        allOrNothing(due);
        places(due);
        aliases(due);
        trees(due);
        cuts(due);
        room(due);
        due.end();
    }

    private static void serials(Due due) {
        ZoneTree tree = new ZoneTree();
        for (int i = 1; i <= 33; i++) {
            due.is("an empty update", tree.update(0), true);
            due.is("the serial goes round", tree.zoneHas(0, 1), i % 16);
        }
        due.is("a drop of what is not there", Build.drop(tree, 0, 1, 0), false);
        due.is("the serial stays", tree.zoneHas(0, 1), 1);
        tree.need(1, 0, false);
        due.is("a condition alone", tree.update(0), true);
        due.is("the serial goes on", tree.zoneHas(0, 1), 2);
        due.fails("no zone 1", Build.NO_ZONE, () -> tree.update(1) ? 1 : 0);
        due.fails("no zone -1", Build.NO_ZONE, () -> tree.update(-1) ? 1 : 0);
        tree.zone(2, 5);
        due.is("another zone has its own", tree.zoneHas(1, 1), 0);
        due.is("update(1)", Build.put(tree, 1, 21, 0, 4, 4), true);
        due.is("its serial", tree.zoneHas(1, 1), 1);
        due.is("the other one's", tree.zoneHas(0, 1), 2);
    }

    private static void allOrNothing(Due due) {
        ZoneTree tree = new ZoneTree();
        Build.put(tree, 0, 1, Build.VALUE, 5, 5);
        tree.put(1, Build.VALUE, 6, 6);
        tree.put(2, Build.VALUE, 6, 6);
        tree.drop(3, Build.VALUE);
        due.is("the last one cannot be", tree.update(0), false);
        due.is("the first one is not done", tree.record(0, 1, Build.VALUE), 5);
        due.is("the second one is not done", tree.record(0, 2, Build.VALUE), Build.NONE);
        due.is("nothing is told then", tree.put(2, Build.VALUE, 7, 7), 1);
        due.fails("a call that throws", Build.NO_ZONE, () -> tree.update(7) ? 1 : 0);
        due.is("changes nothing", tree.update(0), true);
        due.is("what was told is done", tree.record(0, 2, Build.VALUE), 7);
        tree.put(4, Build.ALIAS, 1, 1);
        tree.put(4, Build.VALUE, 1, 1);
        tree.drop(4, Build.ALIAS);
        due.is("what does not fit on the way, but in the end", tree.update(0), true);
        due.is("the record", tree.record(0, 4, Build.VALUE), 1);
        due.is("no other", tree.record(0, 4, Build.ALIAS), Build.NONE);
    }

    private static void places(Due due) {
        ZoneTree tree = new ZoneTree();
        tree.zone(12, 5);
        due.is("the apex", Build.put(tree, 1, 12, 0, 1, 1), true);
        due.is("the star of the apex", Build.put(tree, 1, 120, 0, 1, 1), true);
        due.is("under the apex", Build.put(tree, 1, 1299, 0, 1, 1), true);
        due.is("a star under the apex", Build.put(tree, 1, 1250, 0, 1, 1), true);
        due.is("above the apex", Build.put(tree, 1, 1, 0, 1, 1), false);
        due.is("the star above the apex", Build.put(tree, 1, 10, 0, 1, 1), false);
        due.is("the top", Build.put(tree, 1, 0, 0, 1, 1), false);
        due.is("beside the apex", Build.put(tree, 1, 13, 0, 1, 1), false);
        due.is("with the figures behind", Build.put(tree, 1, 312, 0, 1, 1), false);
        due.is("the top, in the zone of the top", Build.put(tree, 0, 0, 0, 1, 1), true);
        due.is("records", tree.zoneHas(1, 2), 4);
    }

    private static void aliases(Due due) {
        ZoneTree tree = new ZoneTree();
        due.is("an ALIAS", Build.put(tree, 0, 1, Build.ALIAS, 2, 1), true);
        due.is("a VALUE beside it", Build.put(tree, 0, 1, Build.VALUE, 2, 1), false);
        due.is("a TREE beside it", Build.put(tree, 0, 1, Build.TREE, 2, 1), false);
        due.is("a VALUE under it", Build.put(tree, 0, 11, Build.VALUE, 2, 1), true);
        due.is("an ALIAS beside a VALUE", Build.put(tree, 0, 11, Build.ALIAS, 2, 1), false);
        due.is("an ALIAS in place of an ALIAS", Build.put(tree, 0, 1, Build.ALIAS, 0, 1), true);
        due.is("at a star", Build.put(tree, 0, 10, Build.ALIAS, 2, 1), true);
        due.is("a VALUE beside that", Build.put(tree, 0, 10, Build.VALUE, 2, 1), false);
        due.is("at the apex", Build.put(tree, 0, 0, Build.ALIAS, 2, 1), true);
    }

    private static void trees(Due due) {
        ZoneTree tree = new ZoneTree();
        due.is("a TREE", Build.put(tree, 0, 12, Build.TREE, 3, 1), true);
        due.is("a VALUE beside it", Build.put(tree, 0, 12, Build.VALUE, 2, 1), true);
        due.is("under it", Build.put(tree, 0, 121, Build.VALUE, 2, 1), false);
        due.is("far under it", Build.put(tree, 0, 1211, Build.VALUE, 2, 1), false);
        due.is("the star of it", Build.put(tree, 0, 120, Build.VALUE, 2, 1), false);
        due.is("a star under it", Build.put(tree, 0, 1210, Build.VALUE, 2, 1), false);
        due.is("a TREE under it", Build.put(tree, 0, 121, Build.TREE, 2, 1), false);
        due.is("above it", Build.put(tree, 0, 1, Build.VALUE, 2, 1), true);
        due.is("a star above it", Build.put(tree, 0, 10, Build.VALUE, 2, 1), true);
        due.is("a TREE above it", Build.put(tree, 0, 1, Build.TREE, 2, 1), false);
        due.is("at a star", Build.put(tree, 0, 130, Build.TREE, 2, 1), false);
        due.is("over a star of it alone", Build.put(tree, 0, 240, Build.VALUE, 2, 1), true);
        due.is("that", Build.put(tree, 0, 24, Build.TREE, 2, 1), false);
        due.is("at the apex", Build.put(new ZoneTree(), 0, 0, Build.TREE, 2, 1), true);
        ZoneTree other = new ZoneTree();
        other.put(3, Build.VALUE, 1, 1);
        other.put(12, Build.VALUE, 1, 1);
        other.put(13, Build.VALUE, 1, 1);
        other.update(0);
        other.drop(13, Build.VALUE);
        other.drop(12, Build.VALUE);
        other.put(1, Build.TREE, 2, 1);
        due.is("in place of all that was under it", other.update(0), true);
        ZoneTree first = new ZoneTree();
        Build.put(first, 0, 12, Build.VALUE, 1, 1);
        due.is("over the first record of all", Build.put(first, 0, 1, Build.TREE, 2, 1), false);
    }

    private static void cuts(Due due) {
        ZoneTree tree = new ZoneTree();
        due.is("no such zone", Build.put(tree, 0, 1, Build.CUT, 1, 1), false);
        tree.zone(1, 5);
        tree.zone(12, 5);
        due.is("a CUT", Build.put(tree, 0, 1, Build.CUT, 1, 1), true);
        due.is("at another name", Build.put(tree, 0, 2, Build.CUT, 1, 1), false);
        due.is("to a zone at another name", Build.put(tree, 0, 1, Build.CUT, 2, 1), false);
        due.is("under another one", Build.put(tree, 0, 12, Build.CUT, 2, 1), true);
        due.is("at the apex", Build.put(tree, 1, 1, Build.CUT, 1, 1), false);
        due.is("at the top", Build.put(tree, 0, 0, Build.CUT, 0, 1), false);
        due.is("at a star", Build.put(tree, 0, 10, Build.CUT, 1, 1), false);
        due.is("an ALIAS beside it", Build.put(tree, 0, 1, Build.ALIAS, 1, 1), false);
        due.is("a TRUST at it", Build.put(tree, 0, 1, Build.TRUST, 996, 1), true);
        due.is("a TRUST elsewhere", Build.put(tree, 0, 2, Build.TRUST, 1, 1), false);
        due.is("a TRUST under it", Build.put(tree, 0, 11, Build.TRUST, 1, 1), false);
        due.is("a TRUST at a star", Build.put(tree, 0, 10, Build.TRUST, 1, 1), false);
        due.is("the CUT of a TRUST dropped", Build.drop(tree, 0, 1, Build.CUT), false);
        tree.drop(1, Build.CUT);
        tree.drop(1, Build.TRUST);
        due.is("both dropped", tree.update(0), true);
        tree.put(1, Build.TRUST, 1, 1);
        tree.put(1, Build.CUT, 1, 1);
        due.is("both put, the TRUST first", tree.update(0), true);
    }

    private static void room(Due due) {
        ZoneTree tree = new ZoneTree();
        for (int i = 0; i < 19; i++) {
            due.is("record " + i, Build.put(tree, 0, 11 + i / 9 * 10 + i % 9, 0, i, 1), true);
        }
        tree.put(5, 0, 5, 5);
        tree.put(6, 0, 6, 6);
        due.is("20 and one more", tree.update(0), false);
        due.is("the 20th", Build.put(tree, 0, 5, 0, 5, 5), true);
        due.is("the 21st", Build.put(tree, 0, 6, 0, 6, 6), false);
        due.is("one in place of one", Build.put(tree, 0, 5, 0, 6, 6), true);
        for (int i = 1; i <= 9; i++) {
            tree.put(1000 + 111 * i, 0, i, i);
        }
        tree.drop(5, 0);
        due.is("many more", tree.update(0), false);
        for (int i = 1; i <= 5; i++) {
            tree.put(700 + 11 * i, 0, i, i);
        }
        for (int i = 1; i <= 5; i++) {
            tree.drop(10 + i, 0);
        }
        due.is("too many on the way alone", tree.update(0), true);
        due.is("20 records", tree.zoneHas(0, 2), 20);
        due.is("the one put", tree.record(0, 755, 0), 5);
    }
}
