/** bringUp: by differences, or whole. */
public final class Promise09Test {
    public static void main(String[] args) {
        Due due = new Due();
        differences(due);
        serials(due);
        due.end();
    }

    private static void differences(Due due) {
        ZoneTree tree = new ZoneTree();
        due.is("an empty one", tree.bringUp(0), 0);
        due.is("it is a copy", tree.zoneHas(0, 3), 0);
        tree.put(1, 0, 1, 1);
        tree.put(2, 0, 2, 2);
        tree.put(30, 0, 3, 3);
        tree.update(0);
        due.is("three new ones", tree.bringUp(0), 3);
        due.is("the same serial", tree.bringUp(0), 0);
        Build.put(tree, 0, 1, 0, 9, 1);
        due.is("a changed number counts twice", tree.bringUp(0), 2);
        Build.put(tree, 0, 1, 0, 9, 2);
        due.is("a changed life counts twice", tree.bringUp(0), 2);
        Build.put(tree, 0, 1, 0, 9, 2);
        due.is("a record put as it is does not count", tree.bringUp(0), 0);
        due.is("but the serial is that of then", tree.zoneHas(0, 3), tree.zoneHas(0, 1));
        tree.drop(2, 0);
        tree.put(3, 0, 1, 1);
        tree.put(30, 0, 4, 3);
        tree.update(0);
        due.is("one gone, one new, one changed", tree.bringUp(0), 4);
        Build.put(tree, 0, 5, 0, 5, 5);
        Build.drop(tree, 0, 5, 0);
        due.is("what came and went", tree.bringUp(0), 0);
        Build.put(tree, 0, 2, 0, 2, 2);
        Build.put(tree, 0, 2, 1, 2, 2);
        tree.drop(2, 0);
        tree.put(2, 1, 2, 2);
        tree.update(0);
        due.is("of another sort", tree.bringUp(0), 1);
        due.fails("no zone 1", Build.NO_ZONE, () -> tree.bringUp(1));
        due.fails("no zone -1", Build.NO_ZONE, () -> tree.bringUp(-1));
    }

    private static void serials(Due due) {
        ZoneTree tree = new ZoneTree();
        for (int i = 1; i <= 6; i++) {
            Build.put(tree, 0, i, 0, i, i);
        }
        due.is("whole at first", tree.bringUp(0), 6);
        for (int ahead = 1; ahead <= 17; ahead++) {
            ZoneTree other = new ZoneTree();
            for (int i = 1; i <= 12; i++) {
                Build.put(other, 0, i <= 6 ? i : 1, 0, 50 + i, 1);
            }
            due.is("whole", other.bringUp(0), 6);
            Build.put(other, 0, 1, 0, 1, 1);
            for (int i = 1; i < ahead; i++) {
                other.update(0);
            }
            int want = ahead == 16 ? 0 : ahead <= 4 || ahead == 17 ? 2 : 6;
            due.is(ahead + " ahead", other.bringUp(0), want);
            due.is("the serial of the copy", other.zoneHas(0, 3), (12 + ahead) % 16);
            other.setDead(0, true);
            other.resolveAnew(1, 0);
            due.is("the copy stays with the same serial alone", other.told(0), ahead == 16 ? 62 : 1);
        }
    }
}
