/** pass: lets time pass. */
public final class Promise17Test {
    public static void main(String[] args) {
        Due due = new Due();
        ZoneTree tree = new ZoneTree();
        due.is("pass(1)", tree.pass(1), 1);
        due.is("pass(100)", tree.pass(100), 101);
        for (int time : new int[] {0, -1, 101, Integer.MIN_VALUE, Integer.MAX_VALUE}) {
            due.fails("pass(" + time + ")", Build.OUT_OF_RANGE, () -> tree.pass(time));
        }
        due.is("what throws passes nothing", tree.pass(50), 151);
        for (int i = 1; i <= 400; i++) {
            due.is("on and on", tree.pass(100), 151 + 100 * i);
        }
        Build.put(tree, 0, 1, Build.VALUE, 5, 50);
        tree.resolve(1, 0);
        tree.pass(49);
        tree.resolve(1, 0);
        due.is("it still holds for 1", tree.told(2), 1);
        tree.pass(1);
        tree.resolve(1, 0);
        due.is("it does not", tree.told(3), 1);
        due.end();
    }
}
