/** forget: all that is kept; how many answers still held. */
public final class Promise16Test {
    public static void main(String[] args) {
        Due due = new Due();
        ZoneTree tree = Build.threeZones();
        due.is("nothing is kept", tree.forget(), 0);
        Build.put(tree, 1, 11, Build.VALUE, 5, 3);
        Build.put(tree, 1, 13, Build.ALIAS, 5, 50);
        tree.resolve(11, 0);
        tree.resolve(13, 0);
        tree.resolve(14, 0);
        tree.resolve(11, 1);
        tree.resolve(11, 0);
        tree.pass(3);
        due.is("LED, NO_NAME of 5 and of 14, NO_DATA of 11", tree.forget(), 4);
        due.is("none any more", tree.forget(), 0);
        due.is("the zones are forgotten as well", tree.resolve(14, 0), Build.NO_NAME);
        due.is("questions", tree.told(3), 2);
        tree.pass(5);
        due.is("it does not hold any more", tree.forget(), 0);
        tree.resolve(14, 0);
        tree.forget();
        tree.setDead(0, true);
        due.is("nothing old either", tree.resolve(14, 0), Build.FAILED);
        due.is("one question", tree.told(3), 1);
        tree.setDead(0, false);
        tree.resolve(14, 0);
        tree.forget();
        Build.told(due, "told() is not forgotten", tree, -1, 14, 5, 2, 0);
        due.is("it keeps anew", tree.resolve(14, 0), Build.NO_NAME);
        due.is("one answer", tree.forget(), 1);
        tree.resolve(9, 0);
        tree.pass(9);
        due.is("still held", tree.forget(), 1);
        tree.resolve(9, 0);
        due.is("asked anew", tree.told(3), 1);
        due.is("one", tree.forget(), 1);
        tree.resolve(11, 0);
        due.is("the first one of all is forgotten as well", tree.told(3), 2);
        ZoneTree other = new ZoneTree();
        other.resolve(9, 0);
        due.is("the only one", other.forget(), 1);
        due.is("it is gone", other.forget(), 0);
        other.resolve(9, 0);
        due.is("and asked for anew", other.told(3), 1);
        due.end();
    }
}
