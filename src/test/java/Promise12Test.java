/** told: of the latest ask(), resolve() or resolveAnew(). */
public final class Promise12Test {
    public static void main(String[] args) {
        Due due = new Due();
        ZoneTree tree = Build.threeZones();
        for (int what : new int[] {-1, 5, Integer.MIN_VALUE, Integer.MAX_VALUE}) {
            due.fails("told(" + what + ") ahead of all", Build.OUT_OF_RANGE, () -> tree.told(what));
        }
        due.is("trust", tree.trust(5, 0), ZoneTree.INSECURE);
        Build.told(due, "there was none", tree, -1, -1, -1, -1, -1);
        Build.put(tree, 1, 11, Build.VALUE, 5, 30);
        tree.ask(0, 11, 0);
        Build.told(due, "ask REFERRED", tree, -1, 1, 20, 1, 0);
        tree.resolve(11, 0);
        Build.told(due, "resolve, REFERRED on the way", tree, 5, 11, 30, 2, 0);
        tree.pass(7);
        tree.resolve(11, 0);
        Build.told(due, "by what is kept, how long it still holds", tree, 5, 11, 23, 0, 0);
        tree.resolveAnew(11, 0);
        Build.told(due, "anew", tree, 5, 11, 30, 2, 0);
        due.fails("a call that throws", Build.OUT_OF_RANGE, () -> tree.resolve(10, 0));
        tree.trust(5, 0);
        Build.told(due, "that, or trust(), tells nothing", tree, 5, 11, 30, 2, 0);
        parts(due);
        old(due);
        failed(due);
        due.end();
    }

    private static void parts(Due due) {
        ZoneTree tree = new ZoneTree();
        tree.zone(1, 5);
        tree.zone(2, 50);
        Build.put(tree, 0, 1, Build.CUT, 1, 3);
        Build.put(tree, 0, 2, Build.CUT, 2, 3);
        Build.put(tree, 1, 11, Build.ALIAS, 21, 12);
        Build.put(tree, 2, 21, Build.VALUE, 6, 40);
        tree.resolve(11, 0);
        Build.told(due, "LED, and told", tree, 6, 21, 12, 4, 0);
        tree.pass(5);
        tree.resolve(11, 0);
        Build.told(due, "LED by what is kept", tree, 6, 21, 7, 0, 0);
        tree.pass(7);
        tree.resolve(11, 0);
        Build.told(due, "LED by what is told, the rest is kept", tree, 6, 21, 12, 2, 0);
        tree.resolve(11, 2);
        Build.told(due, "NO_DATA behind LED", tree, -1, 21, 12, 3, 0);
        tree.resolve(22, 2);
        Build.told(due, "NO_NAME", tree, -1, 22, 50, 1, 0);
    }

    private static void old(Due due) {
        ZoneTree tree = new ZoneTree();
        Build.put(tree, 0, 1, Build.VALUE, 5, 3);
        tree.resolve(1, 0);
        tree.pass(3);
        tree.setDead(0, true);
        due.is("old", tree.resolve(1, 0), Build.FOUND);
        Build.told(due, "old", tree, 5, 1, 0, 1, 1);
        due.is("ask", tree.ask(0, 1, 0), Build.FOUND);
        Build.told(due, "ask is not", tree, 5, 1, 3, 1, 0);
        tree.setDead(0, false);
        tree.resolve(1, 0);
        Build.told(due, "answered again", tree, 5, 1, 3, 1, 0);
    }

    private static void failed(Due due) {
        ZoneTree tree = new ZoneTree();
        Build.put(tree, 0, 1, Build.ALIAS, 1, 3);
        due.is("ask LOST", tree.ask(0, 1, 0), Build.LOST);
        Build.told(due, "LOST", tree, -1, -1, 0, 1, 0);
        due.is("LOST is FAILED", tree.resolve(1, 0), Build.FAILED);
        Build.told(due, "FAILED", tree, -1, -1, 0, 1, 0);
        tree.setDead(0, true);
        tree.resolve(2, 0);
        Build.told(due, "no answer", tree, -1, -1, 0, 1, 0);
    }
}
