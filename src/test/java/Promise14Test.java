/** resolve: walks down, and keeps what it was told. */
public final class Promise14Test {
    public static void main(String[] args) {
        Due due = new Due();
        answers(due);
        zones(due);
        cutsAndTrusts(due);
        holding(due);
        old(due);
        led(due);
        questions(due);
        latest40(due);
        wrong(due);
        due.end();
    }

    private static void resolve(Due due, ZoneTree tree, int name, int sort, int want, int... told) {
        String call = "resolve(" + name + ", " + sort + ")";
        due.is(call, tree.resolve(name, sort), want);
        Build.told(due, call, tree, told);
    }

    private static void answers(Due due) {
        ZoneTree tree = Build.threeZones();
        Build.put(tree, 2, 121, Build.VALUE, 5, 9);
        resolve(due, tree, 121, 0, Build.FOUND, 5, 121, 9, 3, 0);
        resolve(due, tree, 121, 0, Build.FOUND, 5, 121, 9, 0, 0);
        resolve(due, tree, 121, 1, Build.NO_DATA, -1, 121, 7, 1, 0);
        resolve(due, tree, 121, 1, Build.NO_DATA, -1, 121, 7, 0, 0);
        resolve(due, tree, 122, 0, Build.NO_NAME, -1, 122, 7, 1, 0);
        resolve(due, tree, 122, 0, Build.NO_NAME, -1, 122, 7, 0, 0);
        resolve(due, tree, 19, 0, Build.NO_NAME, -1, 19, 5, 1, 0);
        resolve(due, tree, 0, 0, Build.NO_DATA, -1, 0, 10, 1, 0);
        Build.put(tree, 2, 121, Build.VALUE, 6, 9);
        resolve(due, tree, 121, 0, Build.FOUND, 5, 121, 9, 0, 0);
    }

    private static void zones(Due due) {
        ZoneTree tree = Build.threeZones();
        resolve(due, tree, 12, 0, Build.NO_NAME, -1, 12, 7, 3, 0);
        tree.pass(14);
        resolve(due, tree, 121, 0, Build.NO_NAME, -1, 121, 7, 1, 0);
        tree.pass(1);
        resolve(due, tree, 122, 0, Build.NO_NAME, -1, 122, 7, 2, 0);
        tree.pass(4);
        resolve(due, tree, 11, 0, Build.NO_NAME, -1, 11, 5, 1, 0);
        tree.pass(1);
        resolve(due, tree, 13, 0, Build.NO_NAME, -1, 13, 5, 2, 0);
        resolve(due, tree, 123, 0, Build.NO_NAME, -1, 123, 7, 1, 0);
        tree.setDead(0, true);
        tree.setDead(1, true);
        resolve(due, tree, 124, 0, Build.NO_NAME, -1, 124, 7, 1, 0);
        resolve(due, tree, 14, 0, Build.FAILED, -1, -1, 0, 1, 0);
        resolve(due, tree, 4, 0, Build.FAILED, -1, -1, 0, 1, 0);
    }

    private static void cutsAndTrusts(Due due) {
        ZoneTree tree = Build.threeZones();
        tree.resolve(121, 0);
        resolve(due, tree, 12, Build.CUT, Build.FOUND, 2, 12, 15, 1, 0);
        resolve(due, tree, 12, Build.TRUST, Build.NO_DATA, -1, 12, 5, 1, 0);
        resolve(due, tree, 121, Build.CUT, Build.NO_NAME, -1, 121, 7, 1, 0);
        resolve(due, tree, 1, Build.CUT, Build.FOUND, 1, 1, 20, 1, 0);
        resolve(due, tree, 0, Build.CUT, Build.NO_DATA, -1, 0, 10, 1, 0);
        ZoneTree fresh = Build.threeZones();
        resolve(due, fresh, 12, Build.CUT, Build.FOUND, 2, 12, 15, 2, 0);
        fresh.setDead(1, true);
        resolve(due, fresh, 12, Build.VALUE, Build.FAILED, -1, -1, 0, 1, 0);
    }

    private static void holding(Due due) {
        ZoneTree tree = new ZoneTree();
        Build.put(tree, 0, 1, Build.VALUE, 5, 6);
        tree.pass(3);
        tree.resolve(1, 0);
        Build.put(tree, 0, 1, Build.VALUE, 9, 50);
        tree.pass(5);
        resolve(due, tree, 1, 0, Build.FOUND, 5, 1, 1, 0, 0);
        tree.pass(1);
        resolve(due, tree, 1, 0, Build.FOUND, 9, 1, 50, 1, 0);
        resolve(due, tree, 2, 0, Build.NO_NAME, -1, 2, 10, 1, 0);
        tree.pass(9);
        resolve(due, tree, 2, 0, Build.NO_NAME, -1, 2, 1, 0, 0);
        Build.put(tree, 0, 2, Build.VALUE, 3, 1);
        tree.pass(1);
        resolve(due, tree, 2, 0, Build.FOUND, 3, 2, 1, 1, 0);
    }

    private static void old(Due due) {
        ZoneTree tree = new ZoneTree();
        Build.put(tree, 0, 1, Build.VALUE, 5, 6);
        Build.put(tree, 0, 2, Build.VALUE, 7, 50);
        tree.pass(10);
        tree.resolve(1, 0);
        tree.resolve(3, 0);
        tree.pass(50);
        tree.setDead(0, true);
        resolve(due, tree, 1, 0, Build.FOUND, 5, 1, 0, 1, 1);
        resolve(due, tree, 3, 0, Build.NO_NAME, -1, 3, 0, 1, 1);
        resolve(due, tree, 1, 1, Build.FAILED, -1, -1, 0, 1, 0);
        tree.pass(9);
        resolve(due, tree, 1, 0, Build.FOUND, 5, 1, 0, 1, 1);
        tree.pass(1);
        resolve(due, tree, 1, 0, Build.FAILED, -1, -1, 0, 1, 0);
        tree.bringUp(0);
        resolve(due, tree, 1, 0, Build.FOUND, 5, 1, 6, 1, 0);
        ZoneTree other = new ZoneTree();
        Build.put(other, 0, 1, Build.ALIAS, 2, 5);
        Build.put(other, 0, 2, Build.VALUE, 7, 50);
        resolve(due, other, 1, 0, Build.FOUND, 7, 2, 5, 1, 0);
        ZoneTree third = new ZoneTree();
        third.zone(1, 5);
        Build.put(third, 0, 1, Build.CUT, 1, 50);
        Build.put(third, 1, 11, Build.ALIAS, 2, 5);
        Build.put(third, 0, 2, Build.VALUE, 7, 50);
        third.resolve(11, 0);
        third.pass(5);
        third.setDead(1, true);
        resolve(due, third, 11, 0, Build.FOUND, 7, 2, 0, 1, 1);
        third.pass(45);
        third.setDead(0, true);
        resolve(due, third, 11, 0, Build.FOUND, 7, 2, 0, 2, 1);
        third.pass(10);
        resolve(due, third, 11, 0, Build.FAILED, -1, -1, 0, 1, 0);
    }

    /** Zones 1 and 2 that lead to one another. */
    private static ZoneTree leading() {
        ZoneTree tree = new ZoneTree();
        tree.zone(1, 50);
        tree.zone(2, 50);
        tree.put(1, Build.CUT, 1, 50);
        tree.put(2, Build.CUT, 2, 50);
        tree.update(0);
        return tree;
    }

    private static void led(Due due) {
        ZoneTree tree = leading();
        Build.put(tree, 1, 11, Build.ALIAS, 21, 50);
        Build.put(tree, 2, 21, Build.ALIAS, 11, 50);
        resolve(due, tree, 11, 0, Build.FAILED, -1, -1, 0, 4, 0);
        resolve(due, tree, 11, 0, Build.FAILED, -1, -1, 0, 0, 0);
        ZoneTree chain = leading();
        for (int i = 1; i <= 8; i++) {
            int zone = i % 2 == 1 ? 1 : 2;
            int other = zone == 1 ? 20 : 10;
            Build.put(chain, zone, zone * 10 + i, Build.ALIAS, i < 8 ? other + i + 1 : 199, 50);
        }
        Build.put(chain, 1, 199, Build.VALUE, 9, 50);
        resolve(due, chain, 11, 0, Build.FOUND, 9, 199, 50, 11, 0);
        Build.put(chain, 2, 299, Build.ALIAS, 11, 50);
        resolve(due, chain, 299, 0, Build.FAILED, -1, -1, 0, 1, 0);
        resolve(due, chain, 298, 0, Build.NO_NAME, -1, 298, 50, 1, 0);
    }

    private static void questions(Due due) {
        ZoneTree tree = leading();
        for (int i = 1; i <= 4; i++) {
            int zone = i % 2 == 1 ? 1 : 2;
            int other = zone == 1 ? 20 : 10;
            Build.put(tree, zone, zone * 10 + i, Build.ALIAS, other + i + 1, 1);
        }
        Build.put(tree, 1, 15, Build.VALUE, 9, 1);
        due.is("with 10 questions", tree.resolveAnew(11, 0), Build.FOUND);
        due.is("with 10 questions", tree.told(3), 10);
        Build.put(tree, 2, 291, Build.ALIAS, 11, 1);
        due.is("12 questions", tree.resolveAnew(291, 0), Build.FOUND);
        due.is("12 questions", tree.told(3), 12);
        Build.put(tree, 1, 191, Build.ALIAS, 291, 1);
        due.is("FAILED ahead of the 13th", tree.resolveAnew(191, 0), Build.FAILED);
        due.is("after 12 questions", tree.told(3), 12);
        resolve(due, tree, 191, 0, Build.FOUND, 9, 15, 1, 9, 0);
        tree.setDead(0, true);
        tree.setDead(1, true);
        tree.setDead(2, true);
        tree.pass(1);
        resolve(due, tree, 191, 0, Build.FOUND, 9, 15, 0, 7, 1);
    }

    private static void latest40(Due due) {
        ZoneTree tree = new ZoneTree();
        for (int i = 0; i < 40; i++) {
            tree.resolve(1111 + i % 8 * 111, i / 8);
        }
        tree.pass(9);
        resolve(due, tree, 1111, 0, Build.NO_NAME, -1, 1111, 1, 0, 0);
        tree.resolve(5, 0);
        resolve(due, tree, 1222, 0, Build.NO_NAME, -1, 1222, 1, 0, 0);
        resolve(due, tree, 1111, 0, Build.NO_NAME, -1, 1111, 10, 1, 0);
        resolve(due, tree, 1222, 0, Build.NO_NAME, -1, 1222, 10, 1, 0);
        resolve(due, tree, 1444, 0, Build.NO_NAME, -1, 1444, 1, 0, 0);
        tree.pass(1);
        due.is("those that still hold", tree.forget(), 3);
        ZoneTree other = new ZoneTree();
        for (int i = 0; i < 39; i++) {
            other.resolve(1111 + i % 8 * 111, i / 8);
        }
        other.pass(10);
        other.resolve(1111, 0);
        other.resolve(5, 0);
        other.setDead(0, true);
        resolve(due, other, 1222, 0, Build.NO_NAME, -1, 1222, 0, 1, 1);
        other.setDead(0, false);
        other.resolve(6, 0);
        other.setDead(0, true);
        resolve(due, other, 1222, 0, Build.FAILED, -1, -1, 0, 1, 0);
        resolve(due, other, 1111, 0, Build.NO_NAME, -1, 1111, 10, 0, 0);
        resolve(due, other, 1333, 0, Build.NO_NAME, -1, 1333, 0, 1, 1);
    }

    private static void wrong(Due due) {
        ZoneTree tree = new ZoneTree();
        for (int name : new int[] {-1, 10, 120, 101, 1010, 10000, Integer.MIN_VALUE, Integer.MAX_VALUE}) {
            due.fails("resolve " + name, Build.OUT_OF_RANGE, () -> tree.resolve(name, 0));
        }
        due.fails("sort -1", Build.OUT_OF_RANGE, () -> tree.resolve(1, -1));
        due.fails("sort 5", Build.OUT_OF_RANGE, () -> tree.resolve(1, 5));
        due.is("what throws keeps nothing", tree.forget(), 0);
    }
}
