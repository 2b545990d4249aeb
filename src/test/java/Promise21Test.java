/** trust: from the anchor down. */
public final class Promise21Test {
    private static final int SECURE = ZoneTree.SECURE, INSECURE = ZoneTree.INSECURE, BOGUS = ZoneTree.BOGUS;

    public static void main(String[] args) {
        Due due = new Due();
        down(due);
        parts(due);
        copies(due);
        keptAndFailed(due);
        due.end();
    }

    private static int number(int key) {
        return (key * 31 + 7) % 997;
    }

    /** The zones 0, 1 at 1 and 2 at 12, with the keys 10, 11 and 12, and TRUSTs for these. */
    private static ZoneTree trusted() {
        ZoneTree tree = Build.threeZones();
        Build.put(tree, 0, 1, Build.TRUST, number(11), 9);
        Build.put(tree, 1, 12, Build.TRUST, number(12), 9);
        for (int zone = 0; zone <= 2; zone++) {
            tree.setKey(zone, zone % 2, 10 + zone);
            tree.setWindow(zone, 0, 100);
        }
        tree.setAnchor(10);
        return tree;
    }

    private static void down(Due due) {
        ZoneTree tree = trusted();
        due.is("the zone 0", tree.trust(5, 0), SECURE);
        due.is("the zone 1", tree.trust(11, 0), SECURE);
        due.is("the zone 2", tree.trust(121, 0), SECURE);
        tree.setKey(2, 0, 40);
        due.is("not good for its number", tree.trust(121, 0), BOGUS);
        due.is("the one above is", tree.trust(11, 0), SECURE);
        due.is("the CUT is of the one above", tree.trust(12, Build.CUT), SECURE);
        Build.drop(tree, 0, 1, Build.TRUST);
        due.is("without a TRUST", tree.trust(11, 0), INSECURE);
        due.is("the first one from the top stays: INSECURE", tree.trust(121, 0), INSECURE);
        Build.put(tree, 0, 1, Build.TRUST, number(11), 9);
        Build.drop(tree, 1, 12, Build.TRUST);
        due.is("without a TRUST at 12", tree.trust(121, 0), INSECURE);
        tree.setWindow(1, 1, 100);
        due.is("ahead of its window", tree.trust(11, 0), BOGUS);
        due.is("the first one from the top stays: BOGUS", tree.trust(121, 0), BOGUS);
        tree.setAnchor(9);
        due.is("the zone 0 is not good", tree.trust(5, 0), BOGUS);
        due.is("nor what is under it", tree.trust(121, 0), BOGUS);
        tree.setAnchor(Build.NONE);
        due.is("without an anchor", tree.trust(5, 0), INSECURE);
        due.is("all", tree.trust(121, 0), INSECURE);
        due.is("also the BOGUS one", tree.trust(11, 0), INSECURE);
        ZoneTree round = trusted();
        round.setKey(1, 0, 32);
        Build.put(round, 0, 1, Build.TRUST, 2, 9);
        due.is("32 times 31 and 7 is 999, modulo 997", round.trust(11, 0), SECURE);
    }

    private static void parts(Due due) {
        ZoneTree tree = trusted();
        tree.zone(2, 5);
        Build.put(tree, 0, 2, Build.CUT, 3, 9);
        Build.put(tree, 0, 41, Build.ALIAS, 121, 9);
        Build.put(tree, 1, 11, Build.ALIAS, 21, 9);
        Build.put(tree, 3, 21, Build.ALIAS, 121, 9);
        Build.put(tree, 3, 22, Build.ALIAS, 5, 9);
        due.is("INSECURE and SECURE", tree.trust(22, 0), INSECURE);
        due.is("SECURE, INSECURE, SECURE", tree.trust(11, 0), INSECURE);
        due.is("SECURE twice", tree.trust(41, 0), SECURE);
        tree.setKey(2, 0, Build.NONE);
        due.is("SECURE, INSECURE, BOGUS", tree.trust(11, 0), BOGUS);
        due.is("SECURE, BOGUS", tree.trust(41, 0), BOGUS);
        tree.setKey(2, 0, 12);
        tree.setKey(1, 1, Build.NONE);
        due.is("BOGUS, INSECURE, BOGUS", tree.trust(11, 0), BOGUS);
        Build.put(tree, 3, 21, Build.ALIAS, 5, 9);
        due.is("BOGUS, INSECURE, SECURE", tree.trust(11, 0), BOGUS);
        due.is("REFERRED alone is no part", tree.trust(5, 0), SECURE);
    }

    private static void copies(Due due) {
        ZoneTree tree = trusted();
        tree.bringUp(0);
        Build.put(tree, 0, 1, Build.TRUST, number(50), 9);
        due.is("by the zone", tree.trust(11, 0), BOGUS);
        tree.setDead(0, true);
        due.is("by its copy", tree.trust(11, 0), SECURE);
    }

    private static void keptAndFailed(Due due) {
        ZoneTree tree = trusted();
        Build.put(tree, 1, 11, Build.VALUE, 5, 50);
        tree.resolve(11, 0);
        tree.setDead(0, true);
        due.is("nothing that is kept counts", tree.trust(11, 0), Build.NONE);
        due.is("nor what is old", tree.trust(5, 0), Build.NONE);
        due.is("it tells nothing", tree.told(3), 2);
        tree.setDead(0, false);
        tree.trust(12, 0);
        due.is("it keeps nothing", tree.forget(), 1);
        Build.put(tree, 1, 15, Build.ALIAS, 15, 50);
        due.is("LOST", tree.trust(15, 0), Build.NONE);
        for (int name : new int[] {-1, 10, 120, 101, 10000}) {
            due.fails("trust of " + name, Build.OUT_OF_RANGE, () -> tree.trust(name, 0));
        }
        due.fails("sort -1", Build.OUT_OF_RANGE, () -> tree.trust(1, -1));
        due.fails("sort 5", Build.OUT_OF_RANGE, () -> tree.trust(1, 5));
    }
}
