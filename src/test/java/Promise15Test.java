/** resolveAnew: without anything that is kept, and keeps nothing. */
public final class Promise15Test {
    public static void main(String[] args) {
        Due due = new Due();
        ZoneTree tree = Build.threeZones();
        Build.put(tree, 2, 121, Build.VALUE, 5, 9);
        Build.put(tree, 1, 14, Build.TREE, 12, 6);
        due.is("resolveAnew(121, 0)", tree.resolveAnew(121, 0), Build.FOUND);
        Build.told(due, "from the top", tree, 5, 121, 9, 3, 0);
        due.is("nothing is kept", tree.forget(), 0);
        due.is("resolve(121, 0)", tree.resolve(121, 0), Build.FOUND);
        due.is("no zone was kept either", tree.told(3), 3);
        Build.put(tree, 2, 121, Build.VALUE, 6, 9);
        due.is("resolveAnew(121, 0)", tree.resolveAnew(121, 0), Build.FOUND);
        Build.told(due, "what is kept does not count", tree, 6, 121, 9, 3, 0);
        due.is("resolve(121, 0)", tree.resolve(121, 0), Build.FOUND);
        Build.told(due, "and is as it was", tree, 5, 121, 9, 0, 0);
        due.is("resolveAnew(141, 0)", tree.resolveAnew(141, 0), Build.FOUND);
        Build.told(due, "from the top again when it is LED", tree, 6, 121, 6, 5, 0);
        due.is("NO_NAME", tree.resolveAnew(5, 0), Build.NO_NAME);
        due.is("NO_DATA", tree.resolveAnew(1, 0), Build.NO_DATA);
        tree.pass(9);
        tree.setDead(2, true);
        due.is("nothing old counts", tree.resolveAnew(121, 0), Build.FAILED);
        Build.told(due, "FAILED", tree, -1, -1, 0, 3, 0);
        due.is("that by resolve()", tree.resolve(121, 0), Build.FOUND);
        Build.told(due, "old", tree, 5, 121, 0, 1, 1);
        for (int name : new int[] {-1, 10, 120, 101, 10000}) {
            due.fails("name " + name, Build.OUT_OF_RANGE, () -> tree.resolveAnew(name, 0));
        }
        due.fails("sort -1", Build.OUT_OF_RANGE, () -> tree.resolveAnew(1, -1));
        due.fails("sort 5", Build.OUT_OF_RANGE, () -> tree.resolveAnew(1, 5));
        Build.told(due, "what throws tells nothing", tree, 5, 121, 0, 1, 1);
        due.end();
    }
}
