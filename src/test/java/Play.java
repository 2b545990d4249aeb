import java.lang.reflect.Field;
import java.util.HashMap;
import java.util.Map;

/**
 * Calls on one new object, told as text: "zone 1 5 = 1; put 1 CUT 1 20; update 0 = true; zone 0 5 = Argument".
 *
 * <p>Behind = is the answer that is due, or the exception; without it the call only has not to throw. "told = 5 1 20"
 * looks at told(0), told(1) and told(2). "do 0 put 1 VALUE 5 9" tells a change and does it, which has to be true
 * where nothing else is due.
 */
final class Play {
    private static final int MOST_CALLS = 512;
    private static final Map<String, Integer> WORDS = new HashMap<>();

    static {
        WORDS.put("true", 1);
        WORDS.put("false", 0);
        WORDS.put("MIN", Integer.MIN_VALUE);
        WORDS.put("MAX", Integer.MAX_VALUE);
        try {
            for (Field field : ZoneTree.class.getFields()) {
                WORDS.put(field.getName(), field.getInt(null));
            }
        } catch (IllegalAccessException e) {
            throw new AssertionError(e);
        }
    }

    final ZoneTree tree = new ZoneTree();
    private final Due due;
    private int calls;

    Play(Due due, String rows) {
        this.due = due;
        go(rows);
    }

    /** The zones 0, 1 at 1 and 2 at 12, each cut from the one above, lives of the CUTs 20 and 15. */
    static Play threeZones(Due due) {
        return new Play(due, "zone 1 5; zone 12 7; do 0 put 1 CUT 1 20; do 1 put 12 CUT 2 15");
    }

    Play go(String rows) {
        for (String row : rows.split(";")) {
            if (!row.isBlank()) {
                one(row.trim());
            }
        }
        return this;
    }

    /** The same row again and again, with each of some words in place of the sign ?. */
    Play each(String row, String words) {
        for (String word : words.trim().split(" +")) {
            go(row.replace("?", word));
        }
        return this;
    }

    /** What a call answers, or the exception that it throws, whatever is due. */
    String answerOf(String row) {
        calls++;
        return answer(row.split(" +"));
    }

    private void one(String row) {
        String[] sides = row.split("=");
        String[] words = sides[0].trim().split(" +");
        String[] want = sides.length > 1 ? sides[1].trim().split(" +") : new String[0];
        if (words[0].equals("told") && words.length == 1) {
            for (int what = 0; what < want.length; what++) {
                look("told " + what, new String[] {"told", "" + what}, want[what]);
            }
        } else if (words[0].equals("do")) {
            String[] change = new String[words.length - 2];
            System.arraycopy(words, 2, change, 0, change.length);
            look(row, change, null);
            look(row, new String[] {"update", words[1]}, want.length > 0 ? want[0] : "true");
        } else {
            look(row, words, want.length > 0 ? want[0] : null);
        }
    }

    private void look(String row, String[] words, String want) {
        calls++;
        due.is("a call within 512", calls <= MOST_CALLS, true);
        String got = answer(words);
        if (want != null) {
            boolean isThrown = Character.isUpperCase(want.charAt(0)) && !WORDS.containsKey(want);
            due.is(row, got, isThrown ? want : "" + number(want));
        } else {
            due.is(row + " throws", Character.isUpperCase(got.charAt(0)), false);
        }
    }

    private String answer(String[] words) {
        int[] a = new int[5];
        for (int i = 1; i < words.length; i++) {
            a[i] = number(words[i]);
        }
        try {
            return "" + call(words[0], a);
        } catch (RuntimeException e) {
            Class<?> type = e.getClass();
            return type == IndexOutOfBoundsException.class ? "Index" : type == IllegalArgumentException.class
                ? "Argument" : type == IllegalStateException.class ? "State" : type.getSimpleName();
        }
    }

    private static int number(String word) {
        Integer known = WORDS.get(word);
        return known != null ? known : Integer.parseInt(word);
    }

    private long call(String name, int[] a) {
        switch (name) {
            case "zone": return tree.zone(a[1], a[2]);
            case "need": return tree.need(a[1], a[2], a[3] != 0);
            case "put": return tree.put(a[1], a[2], a[3], a[4]);
            case "drop": return tree.drop(a[1], a[2]);
            case "update": return tree.update(a[1]) ? 1 : 0;
            case "zoneHas": return tree.zoneHas(a[1], a[2]);
            case "record": return tree.record(a[1], a[2], a[3]);
            case "bringUp": return tree.bringUp(a[1]);
            case "setDead": tree.setDead(a[1], a[2] != 0); return 0;
            case "ask": return tree.ask(a[1], a[2], a[3]);
            case "told": return tree.told(a[1]);
            case "neighbour": return tree.neighbour(a[1], a[2], a[3] != 0);
            case "resolve": return tree.resolve(a[1], a[2]);
            case "resolveAnew": return tree.resolveAnew(a[1], a[2]);
            case "forget": return tree.forget();
            case "pass": return tree.pass(a[1]);
            case "setKey": return tree.setKey(a[1], a[2], a[3]);
            case "setWindow": tree.setWindow(a[1], a[2], a[3]); return 0;
            case "setAnchor": return tree.setAnchor(a[1]);
            case "trust": return tree.trust(a[1], a[2]);
            default: throw new AssertionError("no such call: " + name);
        }
    }
}
