import java.util.ArrayList;
import java.util.List;

/** "A call that throws changes "
    + "nothing": each one on an object with a past, which answers then as one that never made it. */
public final class EdgesOfRefusalsTest {
    /** Zones, records, copies, keys, what is kept, what is told for the next update, and of the latest answer. */
    private static final String PAST = "zone 1 5; zone 12 7; zone 2 9; do 0 put 1 CUT 1 20; do 0 put 1 TRUST 38 20;"
        + "do 0 put 2 CUT 3 30;"
        + "do 1 put 12 CUT 2 15; do 1 put 11 VALUE 5 9; do 1 put 130 ALIAS 21 8; do 1 put 14 TREE 12 7;"
        + "do 2 put 121 VALUE 6 9;"
        + "do 3 put 21 VALUE 7 9; bringUp 1; do 1 put 11 VALUE 8 9; setDead 3 true; bringUp 3; setKey 0 0 1;"
        + "setKey 0 1 2; setKey 1 1 1;"
        + "setWindow 0 0 50; setWindow 1 3 60; setAnchor 1; resolve 11 VALUE; pass 4; resolve 131 VALUE;"
        + "resolve 121 VALUE;"
        + "resolve 5 ALIAS; need 11 VALUE true; put 15 VALUE 9 9; drop 14 TREE; ask 1 131 VALUE;";

    /** What can be seen of all that. */
    private static final String LOOK = "told 0; told 1; told 2; told 3; told 4; zoneHas 0 0; zoneHas 0 1;"
        + "zoneHas 0 2; zoneHas 0 3;"
        + "zoneHas 0 4; zoneHas 1 0; zoneHas 1 1; zoneHas 1 2; zoneHas 1 3; zoneHas 1 4; zoneHas 2 1; zoneHas 3 3;"
        + "zoneHas 4 0;"
        + "record 1 11 VALUE; record 1 130 ALIAS; record 1 15 VALUE; record 0 1 TRUST; neighbour 1 12 true;"
        + "neighbour 1 1 false;"
        + "trust 11 VALUE; trust 121 VALUE; trust 5 VALUE; resolve 11 VALUE; told 2; told 3; resolve 131 VALUE;"
        + "told 2; told 3;"
        + "resolve 121 VALUE; told 2; told 3; resolve 5 ALIAS; told 3; resolve 122 VALUE; told 3; resolve 22 VALUE;"
        + "told 3; pass 1;"
        + "need 1 VALUE false; update 1; record 1 15 VALUE; record 1 14 TREE; bringUp 1; zoneHas 1 3;"
        + "need 1 VALUE false; update 0;"
        + "setKey 0 0 5; setKey 0 1 5; setKey 1 0 5; setKey 1 1 5; setKey 2 0 5; setAnchor 5; zone 3 5; zone 4 5;"
        + "zone 5 5; forget";

    private final Due due = new Due();
    private final List<String> untouched = new ArrayList<>();

    private List<String> looked(Play play) {
        List<String> answers = new ArrayList<>();
        for (String row : LOOK.split(";")) {
            answers.add(row.trim() + " = " + play.answerOf(row.trim()));
        }
        return answers;
    }

    private void refuse(String row) {
        Play play = new Play(due, PAST).go(row);
        List<String> answers = looked(play);
        for (int i = 0; i < answers.size(); i++) {
            due.is("behind " + row + ": " + untouched.get(i).split(" = ")[0], answers.get(i), untouched.get(i));
        }
    }

    private void each(String row, String words) {
        for (String word : words.split(" ")) {
            refuse(row.replace("?", word));
        }
    }

    private void arguments() {
        due.sentence("A call that throws changes nothing: IllegalArgumentException");
        each("zone ? 5 = Argument", "0 -1 10 10000");
        each("zone 3 ? = Argument", "0 51");
        each("need ? VALUE true = Argument", "-1 101 10000");
        each("need 11 ? true = Argument", "-1 5");
        each("put ? VALUE 1 1 = Argument", "-1 101 10000");
        each("put 11 ? 1 1 = Argument", "-1 5");
        each("put 11 VALUE ? 1 = Argument", "-1 100");
        each("put 11 ALIAS ? 1 = Argument", "-1 10 10000");
        each("put 11 CUT ? 1 = Argument", "-1 6");
        each("put 11 TRUST ? 1 = Argument", "-1 997");
        each("put 11 VALUE 1 ? = Argument", "0 51");
        each("drop ? VALUE = Argument", "-1 101 10000");
        each("drop 11 ? = Argument", "-1 5");
        each("zoneHas 1 ? = Argument", "-1 5");
        each("record 1 ? VALUE = Argument", "-1 101");
        each("ask 1 ? VALUE = Argument", "-1 10 130 10000");
        each("ask 1 11 ? = Argument", "-1 5");
        each("told ? = Argument", "-1 5");
        each("neighbour 1 ? true = Argument", "-1 101 10000");
        each("resolve ? VALUE = Argument; resolveAnew ? VALUE = Argument; trust ? VALUE = Argument", "-1 10 130 10000");
        each("resolve 13 ? = Argument; resolveAnew 13 ? = Argument; trust 13 ? = Argument", "-1 5");
        each("pass ? = Argument", "0 -1 101");
        each("setKey 1 ? 7 = Argument", "-1 2");
        each("setKey 1 1 ? = Argument", "-2 100");
        each("setWindow 1 ? 5 = Argument", "-1 6 10001");
        each("setWindow 1 5 ? = Argument", "4 10001");
        each("setAnchor ? = Argument", "-2 100");
    }

    private void places() {
        due.sentence("A call that throws changes nothing: IndexOutOfBoundsException");
        String zones = "-1 4 6 MIN MAX";
        each("update ? = Index", zones);
        each("zoneHas ? 0 = Index", zones);
        each("record ? 11 VALUE = Index", zones);
        each("bringUp ? = Index", zones);
        each("setDead ? true = Index; setDead ? false = Index", zones);
        each("ask ? 11 VALUE = Index", zones);
        each("neighbour ? 11 true = Index", zones);
        each("setKey ? 0 9 = Index", zones);
        each("setWindow ? 9 9 = Index", zones);
    }

    private void states() {
        due.sentence("A call that throws changes nothing: IllegalStateException");
        each("zone ? 50 = State", "1 12 2");
        each("ask 2 ? VALUE = State", "0 1 2 11 13");
        Play six = new Play(due, "zone 1 5; zone 2 5; zone 3 5; zone 4 5; zone 5 5; zone 6 7 = State;"
            + "zone 5 7 = State; zoneHas 6 0 = Index");
        six.go("zoneHas 5 0 = 5; ask 5 51 VALUE; told 2 = 5; do 0 put 5 CUT 5 5 = true; do 0 put 6 CUT 5 5 = false");
        for (String more : new String[] {"need 1 VALUE true", "put 1 VALUE 5 5", "put 10 TREE 5 5", "drop 9 VALUE"}) {
            Play ten = new Play(due, "put 1 VALUE 1 1; put 2 VALUE 1 1; put 3 VALUE 1 1; put 4 VALUE 1 1;"
                + "put 5 VALUE 1 1; put 6 VALUE 1 1");
            ten.go("put 7 VALUE 1 1; put 8 VALUE 1 1; put 20 VALUE 1 1; need 1 VALUE false = 10")
                .go(more + " = State; " + more + " = State")
                .go("update 0 = true; zoneHas 0 2 = 9; record 0 1 VALUE = 1; record 0 9 VALUE = NONE;"
                + "need 1 VALUE true = 1");
        }
    }

    public static void main(String[] args) {
        EdgesOfRefusalsTest test = new EdgesOfRefusalsTest();
        test.untouched.addAll(test.looked(new Play(test.due, PAST)));
        test.arguments();
        test.places();
        test.states();
        test.due.end();
    }
}
