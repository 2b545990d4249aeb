/** ask: asks a zone. */
public final class Promise11Test {
    public static void main(String[] args) {
        Due due = new Due();
        plain(due);
        stars(due);
        aliases(due);
        trees(due);
        cuts(due);
        lost(due);
        wrong(due);
        due.end();
    }

    private static void ask(Due due, ZoneTree tree, int zone, int name, int sort, int want, int... told) {
        String call = "ask(" + zone + ", " + name + ", " + sort + ")";
        due.is(call, tree.ask(zone, name, sort), want);
        Build.told(due, call, tree, told);
        due.is(call + ", questions", tree.told(3), 1);
        due.is(call + ", old", tree.told(4), 0);
    }

    private static void plain(Due due) {
        ZoneTree tree = new ZoneTree();
        tree.zone(1, 5);
        ask(due, tree, 1, 1, 0, Build.NO_NAME, -1, 1, 5);
        Build.put(tree, 1, 123, Build.VALUE, 0, 9);
        ask(due, tree, 1, 123, 0, Build.FOUND, 0, 123, 9);
        ask(due, tree, 1, 123, 1, Build.NO_DATA, -1, 123, 5);
        ask(due, tree, 1, 12, 0, Build.NO_DATA, -1, 12, 5);
        ask(due, tree, 1, 1, 0, Build.NO_DATA, -1, 1, 5);
        ask(due, tree, 1, 1234, 0, Build.NO_NAME, -1, 1234, 5);
        ask(due, tree, 1, 124, 0, Build.NO_NAME, -1, 124, 5);
        tree.bringUp(1);
        Build.put(tree, 1, 123, Build.VALUE, 1, 9);
        tree.setDead(1, true);
        ask(due, tree, 1, 123, 0, Build.FOUND, 1, 123, 9);
    }

    private static void stars(Due due) {
        ZoneTree tree = new ZoneTree();
        tree.zone(1, 5);
        Build.put(tree, 1, 10, Build.VALUE, 7, 4);
        ask(due, tree, 1, 12, 0, Build.FOUND, 7, 12, 4);
        ask(due, tree, 1, 1234, 0, Build.FOUND, 7, 1234, 4);
        ask(due, tree, 1, 12, 3, Build.NO_DATA, -1, 12, 5);
        ask(due, tree, 1, 12, 1, Build.NO_DATA, -1, 12, 5);
        ask(due, tree, 1, 1, 0, Build.NO_DATA, -1, 1, 5);
        Build.put(tree, 1, 123, Build.VALUE, 8, 4);
        ask(due, tree, 1, 12, 0, Build.NO_DATA, -1, 12, 5);
        ask(due, tree, 1, 124, 0, Build.NO_NAME, -1, 124, 5);
        ask(due, tree, 1, 13, 0, Build.FOUND, 7, 13, 4);
        ask(due, tree, 1, 1234, 0, Build.NO_NAME, -1, 1234, 5);
        Build.put(tree, 1, 1230, Build.ALIAS, 13, 3);
        ask(due, tree, 1, 1234, 0, Build.FOUND, 7, 13, 3);
        ask(due, tree, 1, 1234, 1, Build.FOUND, 13, 1234, 3);
        ask(due, tree, 1, 123, 0, Build.FOUND, 8, 123, 4);
        Build.put(tree, 1, 150, Build.VALUE, 9, 6);
        ask(due, tree, 1, 15, 0, Build.NO_DATA, -1, 15, 5);
        ask(due, tree, 1, 151, 0, Build.FOUND, 9, 151, 6);
        ask(due, tree, 0, 5, 0, Build.NO_NAME, -1, 5, 10);
    }

    private static void aliases(Due due) {
        ZoneTree tree = new ZoneTree();
        tree.zone(1, 5);
        Build.put(tree, 1, 11, Build.ALIAS, 12, 9);
        Build.put(tree, 1, 12, Build.ALIAS, 13, 4);
        Build.put(tree, 1, 13, Build.VALUE, 6, 8);
        ask(due, tree, 1, 11, 0, Build.FOUND, 6, 13, 4);
        ask(due, tree, 1, 11, 1, Build.FOUND, 12, 11, 9);
        ask(due, tree, 1, 11, 2, Build.NO_DATA, -1, 13, 4);
        ask(due, tree, 1, 13, 1, Build.NO_DATA, -1, 13, 5);
        Build.put(tree, 1, 12, Build.ALIAS, 19, 8);
        ask(due, tree, 1, 11, 0, Build.NO_NAME, -1, 19, 5);
        Build.put(tree, 1, 12, Build.ALIAS, 2, 8);
        ask(due, tree, 1, 11, 0, Build.LED, -1, 2, 8);
        Build.put(tree, 1, 12, Build.ALIAS, 0, 10);
        ask(due, tree, 1, 11, 0, Build.LED, -1, 0, 9);
        ask(due, tree, 1, 111, 0, Build.NO_NAME, -1, 111, 5);
    }

    private static void trees(Due due) {
        ZoneTree tree = new ZoneTree();
        tree.zone(1, 5);
        tree.put(11, Build.TREE, 12, 9);
        tree.put(11, Build.VALUE, 3, 3);
        tree.put(121, Build.VALUE, 4, 20);
        tree.put(15, Build.TREE, 0, 7);
        tree.put(16, Build.TREE, 17, 7);
        tree.put(17, Build.TREE, 121, 6);
        due.is("update", tree.update(1), true);
        ask(due, tree, 1, 111, 0, Build.FOUND, 4, 121, 9);
        ask(due, tree, 1, 11, 0, Build.FOUND, 3, 11, 3);
        ask(due, tree, 1, 11, 2, Build.FOUND, 12, 11, 9);
        ask(due, tree, 1, 11, 1, Build.NO_DATA, -1, 11, 5);
        ask(due, tree, 1, 111, 2, Build.NO_DATA, -1, 121, 5);
        ask(due, tree, 1, 1134, 0, Build.NO_NAME, -1, 1234, 5);
        ask(due, tree, 1, 1532, 0, Build.LED, -1, 32, 7);
        ask(due, tree, 1, 151, 0, Build.NO_DATA, -1, 1, 5);
        ask(due, tree, 1, 161, 0, Build.NO_NAME, -1, 1211, 5);
        ask(due, tree, 1, 1611, 0, Build.LOST, -1, -1, 0);
        ZoneTree other = new ZoneTree();
        Build.put(other, 0, 1, Build.TREE, 2, 3);
        Build.put(other, 0, 2345, Build.VALUE, 5, 4);
        ask(due, other, 0, 1345, 0, Build.FOUND, 5, 2345, 3);
        Build.drop(other, 0, 1, Build.TREE);
        ask(due, other, 0, 1345, 0, Build.NO_NAME, -1, 1345, 10);
        ZoneTree whole = new ZoneTree();
        Build.put(whole, 0, 0, Build.TREE, 12, 3);
        ask(due, whole, 0, 0, 0, Build.NO_DATA, -1, 0, 10);
        ask(due, whole, 0, 3, 0, Build.LOST, -1, -1, 0);
    }

    private static void cuts(Due due) {
        ZoneTree tree = Build.threeZones();
        tree.zone(121, 5);
        tree.put(12, Build.TRUST, 38, 9);
        tree.put(12, Build.VALUE, 6, 3);
        tree.put(121, Build.CUT, 3, 2);
        tree.put(11, Build.ALIAS, 12, 8);
        tree.put(13, Build.ALIAS, 1234, 8);
        tree.put(12, Build.TREE, 2, 8);
        due.is("a TREE above a CUT", tree.update(1), false);
        tree.put(12, Build.TRUST, 38, 9);
        tree.put(12, Build.VALUE, 6, 3);
        tree.put(121, Build.CUT, 3, 2);
        tree.put(11, Build.ALIAS, 12, 8);
        tree.put(13, Build.ALIAS, 1234, 8);
        due.is("update", tree.update(1), true);
        ask(due, tree, 1, 12, 0, Build.REFERRED, -1, 12, 15);
        ask(due, tree, 1, 12, 1, Build.REFERRED, -1, 12, 15);
        ask(due, tree, 1, 12, 2, Build.REFERRED, -1, 12, 15);
        ask(due, tree, 1, 12, 3, Build.FOUND, 2, 12, 15);
        ask(due, tree, 1, 12, 4, Build.FOUND, 38, 12, 9);
        ask(due, tree, 1, 121, 3, Build.REFERRED, -1, 12, 15);
        ask(due, tree, 1, 1211, 4, Build.REFERRED, -1, 12, 15);
        ask(due, tree, 1, 11, 0, Build.LED, -1, 12, 8);
        ask(due, tree, 1, 11, 3, Build.FOUND, 2, 12, 8);
        ask(due, tree, 1, 13, 0, Build.LED, -1, 1234, 8);
        ask(due, tree, 0, 1, 4, Build.NO_DATA, -1, 1, 10);
        ask(due, tree, 0, 1, 3, Build.FOUND, 1, 1, 20);
        Build.put(tree, 0, 1, Build.TREE, 5, 3);
        ask(due, tree, 0, 15, 0, Build.REFERRED, -1, 1, 20);
        Build.put(tree, 1, 11, Build.ALIAS, 1211, 8);
        ask(due, tree, 1, 11, 4, Build.LED, -1, 1211, 8);
        Build.drop(tree, 0, 1, Build.TREE);
        due.is("the CUT dropped", Build.drop(tree, 0, 1, Build.CUT), true);
        ask(due, tree, 0, 15, 0, Build.NO_NAME, -1, 15, 10);
        ZoneTree other = new ZoneTree();
        other.zone(12, 5);
        other.zone(1, 5);
        Build.put(other, 0, 12, Build.CUT, 1, 7);
        ask(due, other, 0, 123, 0, Build.REFERRED, -1, 12, 7);
        Build.put(other, 0, 1, Build.CUT, 2, 8);
        ask(due, other, 0, 123, 0, Build.REFERRED, -1, 1, 8);
        ask(due, other, 0, 12, 3, Build.REFERRED, -1, 1, 8);
    }

    private static void lost(Due due) {
        ZoneTree tree = new ZoneTree();
        for (int i = 1; i <= 8; i++) {
            tree.put(i, Build.ALIAS, i + 1, 50);
        }
        tree.put(9, Build.VALUE, 5, 50);
        due.is("update", tree.update(0), true);
        ask(due, tree, 0, 1, 0, Build.FOUND, 5, 9, 50);
        Build.put(tree, 0, 55, Build.ALIAS, 1, 50);
        ask(due, tree, 0, 55, 0, Build.LOST, -1, -1, 0);
        Build.put(tree, 0, 66, Build.ALIAS, 66, 50);
        ask(due, tree, 0, 66, 0, Build.LOST, -1, -1, 0);
        tree.zone(7, 5);
        for (int i = 1; i <= 8; i++) {
            Build.put(tree, 1, 70 + i, Build.ALIAS, i < 8 ? 71 + i : 1, 50);
        }
        ask(due, tree, 1, 71, 0, Build.LED, -1, 1, 50);
        Build.put(tree, 1, 79, Build.ALIAS, 71, 50);
        ask(due, tree, 1, 79, 0, Build.LOST, -1, -1, 0);
        Build.put(tree, 1, 711, Build.TREE, 1111, 50);
        ask(due, tree, 1, 7111, 0, Build.LOST, -1, -1, 0);
    }

    private static void wrong(Due due) {
        ZoneTree tree = Build.threeZones();
        tree.ask(1, 12, 3);
        due.fails("no zone 3", Build.NO_ZONE, () -> tree.ask(3, 1, 0));
        due.fails("no zone -1", Build.NO_ZONE, () -> tree.ask(-1, 10, 5));
        for (int name : new int[] {-1, 10, 120, 101, 1010, 10000, Integer.MIN_VALUE}) {
            due.fails("name " + name, Build.OUT_OF_RANGE, () -> tree.ask(0, name, 0));
        }
        due.fails("a star ahead of the apex", Build.OUT_OF_RANGE, () -> tree.ask(1, 20, 0));
        due.fails("sort 5", Build.OUT_OF_RANGE, () -> tree.ask(1, 2, 5));
        due.fails("sort -1", Build.OUT_OF_RANGE, () -> tree.ask(1, 1, -1));
        for (int name : new int[] {0, 1, 2, 112, 13, 21, 1, 312}) {
            due.fails("not under 12: " + name, Build.NOT_NOW, () -> tree.ask(2, name, 0));
        }
        Build.told(due, "what throws tells nothing", tree, 2, 12, 15, 1, 0);
    }
}
