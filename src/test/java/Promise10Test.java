/** setDead: a dead zone is asked by its copy, or does not answer. */
public final class Promise10Test {
    public static void main(String[] args) {
        Due due = new Due();
        ZoneTree tree = Build.threeZones();
        Build.put(tree, 1, 11, Build.VALUE, 5, 10);
        due.is("alive", tree.resolveAnew(11, 0), Build.FOUND);
        tree.setDead(1, true);
        due.is("dead without a copy", tree.resolveAnew(11, 0), Build.FAILED);
        Build.told(due, "dead", tree, -1, -1, 0, 2, 0);
        due.is("what it is not asked for", tree.resolveAnew(1, Build.CUT), Build.FOUND);
        tree.setDead(1, true);
        tree.setDead(1, false);
        due.is("alive again", tree.resolveAnew(11, 0), Build.FOUND);
        tree.bringUp(1);
        Build.put(tree, 1, 11, Build.VALUE, 6, 10);
        due.is("alive, with a copy", tree.resolveAnew(11, 0), Build.FOUND);
        due.is("the zone answers", tree.told(0), 6);
        tree.setDead(1, true);
        due.is("dead, with a copy", tree.resolveAnew(11, 0), Build.FOUND);
        due.is("the copy answers", tree.told(0), 5);
        due.is("a dead zone is updated", Build.put(tree, 1, 13, Build.VALUE, 1, 1), true);
        due.is("what the copy does not have", tree.resolveAnew(13, 0), Build.NO_NAME);
        due.is("the life of the zone", tree.told(2), 5);
        tree.bringUp(1);
        due.is("brought up though it is dead", tree.resolveAnew(13, 0), Build.FOUND);
        due.is("ask() asks the zone", tree.ask(1, 11, 0), Build.FOUND);
        tree.setDead(0, true);
        due.is("the top", tree.resolveAnew(11, 0), Build.FAILED);
        due.is("one question", tree.told(3), 1);
        due.fails("no zone 3", Build.NO_ZONE, () -> {
            tree.setDead(3, true);
            return 0;
        });
        due.fails("no zone -1", Build.NO_ZONE, () -> {
            tree.setDead(-1, false);
            return 0;
        });
        due.end();
    }
}
