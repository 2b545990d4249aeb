/** A new object: the zone 0 alone, without records, with a life of 10. */
public final class Promise01Test {
    public static void main(String[] args) {
        Due due = new Due();
        ZoneTree tree = new ZoneTree();
        due.is("apex", tree.zoneHas(0, 0), 0);
        due.is("serial", tree.zoneHas(0, 1), 0);
        due.is("records", tree.zoneHas(0, 2), 0);
        due.is("copy", tree.zoneHas(0, 3), Build.NONE);
        due.is("names", tree.zoneHas(0, 4), 0);
        due.fails("zoneHas(1, 0)", Build.NO_ZONE, () -> tree.zoneHas(1, 0));
        Build.told(due, "at first", tree, -1, -1, -1, -1, -1);
        due.is("ask(0, 0, VALUE)", tree.ask(0, 0, Build.VALUE), Build.NO_NAME);
        Build.told(due, "the life of what is not there", tree, -1, 0, 10, 1, 0);
        due.is("nothing is kept", tree.forget(), 0);
        due.is("no anchor", tree.setAnchor(Build.NONE), Build.NONE);
        due.is("no first key", tree.setKey(0, 0, Build.NONE), Build.NONE);
        due.is("no second key", tree.setKey(0, 1, Build.NONE), Build.NONE);
        due.is("nothing is told", tree.need(1, Build.VALUE, false), 1);
        due.is("now is 0", tree.pass(1), 1);
        due.is("the next zone", new ZoneTree().zone(5, 50), 1);
        due.end();
    }
}
