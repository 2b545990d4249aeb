import java.util.ArrayList;
import java.util.List;
import java.util.TreeSet;

/** The sentences of the section Terms about names and stars, over all numbers near them. */
public final class EdgesOfNamesTest {
    private static final int MOST_CALLS = 500;

    private interface Try {
        long on(ZoneTree tree, int number);
    }

    private final Due due = new Due();
    private final List<Integer> numbers = new ArrayList<>();

    private EdgesOfNamesTest() {
        for (int number = -1200; number <= 20100; number++) {
            numbers.add(number);
        }
        for (int far : new int[] {Integer.MIN_VALUE, Integer.MIN_VALUE + 1, -11111, 99990, 99999, 111111, 1111111111,
            Integer.MAX_VALUE - 1, Integer.MAX_VALUE}) {
            numbers.add(far);
        }
    }

    private static boolean isName(int number) {
        return number == 0 || Integer.toString(number).matches("[1-9]{1,4}");
    }

    private static boolean isStar(int number) {
        return Integer.toString(number).matches("[1-9]{1,3}0");
    }

    private static String text(int place) {
        return place == 0 ? "" : Integer.toString(place);
    }

    /** Each number is out of range, or is not, for a call on an object on which not much was called before. */
    private void takes(String call, boolean isStarTaken, boolean isTopTaken, Try made) {
        ZoneTree tree = new ZoneTree();
        int calls = 0;
        for (int number : numbers) {
            boolean isTaken = isName(number) && (number != 0 || isTopTaken) || isStarTaken && isStar(number);
            if (calls >= MOST_CALLS || isTaken) {
                tree = new ZoneTree();
                calls = 0;
            }
            calls++;
            due.is(call + " takes " + number, isIn(tree, number, made), isTaken);
        }
    }

    private static boolean isIn(ZoneTree tree, int number, Try made) {
        try {
            made.on(tree, number);
            return true;
        } catch (IllegalArgumentException e) {
            return false;
        }
    }

    private void names() {
        due.sentence("A name is 0, the top, or a number of one to four figures, 1 to 9 each");
        takes("ask", false, true, (tree, name) -> tree.ask(0, name, 0));
        takes("resolve", false, true, (tree, name) -> tree.resolve(name, 0));
        takes("resolveAnew", false, true, (tree, name) -> tree.resolveAnew(name, 0));
        takes("trust", false, true, (tree, name) -> tree.trust(name, 0));
        takes("put of an ALIAS", false, true, (tree, name) -> tree.put(1, ZoneTree.ALIAS, name, 1));
        takes("put of a TREE", false, true, (tree, name) -> tree.put(1, ZoneTree.TREE, name, 1));
        due.sentence("apex: a name, not 0");
        takes("zone", false, false, (tree, name) -> tree.zone(name, 1));
    }

    private void stars() {
        due.sentence("A star is a name of one to three figures with a 0 behind: 120 is the star right under 12");
        takes("need", true, true, (tree, place) -> tree.need(place, 0, true));
        takes("put", true, true, (tree, place) -> tree.put(place, 0, 1, 1));
        takes("drop", true, true, (tree, place) -> tree.drop(place, 0));
        takes("record", true, true, (tree, place) -> tree.record(0, place, 0));
        takes("neighbour", true, true, (tree, place) -> tree.neighbour(0, place, true));
        takes("a star of 120 alone", true, true, (tree, place) -> {
            tree.put(120, ZoneTree.VALUE, 7, 1);
            tree.update(0);
            boolean isAnswered = isName(place) && tree.ask(0, place, 0) == ZoneTree.FOUND;
            due.is("120 answers for " + place, isAnswered, text(place).matches("12[1-9]{1,2}"));
            return tree.record(0, place, 0);
        });
    }

    private void under() {
        due.sentence("A name is under another one if it is that, or comes from it by figures behind");
        for (int apex : new int[] {1, 9, 12, 99, 123, 989, 1111, 1234, 9999}) {
            underOne(apex);
        }
        due.sentence("all are under the top");
        underOne(0);
    }

    private void underOne(int apex) {
        ZoneTree tree = null;
        int calls = MOST_CALLS;
        int zone = apex == 0 ? 0 : 1;
        for (int number : numbers) {
            if (calls >= MOST_CALLS) {
                tree = new ZoneTree();
                calls = zone == 0 ? 0 : tree.zone(apex, 1);
            }
            if (isName(number)) {
                calls++;
                boolean isUnder = true;
                try {
                    tree.ask(zone, number, 0);
                } catch (IllegalStateException e) {
                    isUnder = false;
                }
                due.is(number + " is under " + apex, isUnder, text(number).startsWith(text(apex)));
            }
        }
    }

    private void order() {
        due.sentence("Names, and stars, are ordered figure by figure, 0 first, "
            + "and one ahead of those that go on from it");
        int[][] zones = {
            {0}, {9999}, {9990, 1}, {10, 11, 110, 111, 1110, 1111, 12, 120, 121, 19, 190, 191, 2, 20, 21},
            {90, 99, 990, 999, 9990, 9999, 9, 98, 980, 9890, 9899}, {1234, 2340, 345, 450, 56, 60, 7},
            {1119, 112, 1190, 119, 12, 1999, 199, 19, 2, 9, 91, 911, 9111}};
        for (int[] places : zones) {
            orderOf(places);
        }
    }

    private void orderOf(int[] places) {
        TreeSet<String> there = new TreeSet<>();
        for (int place : places) {
            there.add(text(place));
            String name = text(isStar(place) ? place / 10 : place);
            for (int figures = 0; figures <= name.length(); figures++) {
                there.add(name.substring(0, figures));
            }
        }
        ZoneTree tree = null;
        int calls = MOST_CALLS;
        for (int number : numbers) {
            if (calls >= MOST_CALLS) {
                tree = filled(places);
                calls = 2 * places.length;
            }
            if (isName(number) || isStar(number)) {
                calls += 2;
                due.is("ahead of " + number, tree.neighbour(0, number, false), number(there.floor(text(number))));
                due.is("behind " + number, tree.neighbour(0, number, true), number(there.higher(text(number))));
            }
        }
    }

    private static ZoneTree filled(int[] places) {
        ZoneTree tree = new ZoneTree();
        for (int place : places) {
            Build.put(tree, 0, place, ZoneTree.VALUE, 1, 1);
        }
        return tree;
    }

    private static int number(String place) {
        return place == null ? ZoneTree.NONE : place.isEmpty() ? 0 : Integer.parseInt(place);
    }

    public static void main(String[] args) {
        EdgesOfNamesTest test = new EdgesOfNamesTest();
        test.names();
        test.stars();
        test.under();
        test.order();
        test.due.end();
    }
}
