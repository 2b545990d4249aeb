/** The sentences of the sections Promise 1 to Promise 21: what each call takes, answers and throws. */
public final class EdgesOfCallsTest {
    private static final String NO_NAMES = "-1 10 90 100 101 110 120 1001 1010 1110 9990 10000 10001 11111 MIN MAX";
    private static final String NO_PLACES = "-1 -10 100 101 1001 1010 1100 10000 11110 11111 99990 MIN MAX";
    private static final String NO_SORTS = "-1 5 6 MIN MAX";
    private static final String SORTS = "VALUE ALIAS TREE CUT TRUST";

    private final Due due = new Due();

    private Play play(String rows) {
        return new Play(due, rows);
    }

    private Play full(String rows) {
        return play("zone 1 5; zone 2 5; zone 3 5; zone 4 5; zone 5 5 = 5;" + rows);
    }

    /** Ten conditions are told. */
    private Play tenTold() {
        Play play = play("");
        for (int i = 1; i <= 10; i++) {
            play.go("need " + i % 10 + " VALUE false = " + i);
        }
        return play;
    }

    private void newObject() {
        due.sentence("The zone 0 alone");
        play("zoneHas 0 0 = 0; zoneHas 1 0 = Index; update 1 = Index; bringUp 1 = Index; zone 1 5 = 1");
        due.sentence("without records");
        play("zoneHas 0 1 = 0; zoneHas 0 2 = 0; zoneHas 0 3 = NONE; zoneHas 0 4 = 0; neighbour 0 0 true = NONE;"
            + "neighbour 0 0 false = NONE")
            .each("record 0 0 ? = NONE; record 0 1 ? = NONE; ask 0 0 ? = NO_NAME; ask 0 9999 ? = NO_NAME", SORTS);
        due.sentence("with a life of 10");
        play("ask 0 1 VALUE; told 2 = 10; resolve 1 VALUE; told 2 = 10; pass 9; resolve 1 VALUE; told 2 = 1; pass 1;"
            + "resolve 1 VALUE; told 2 = 10");
        due.sentence("a new object: nothing is told, kept, set or asked");
        play("need 1 VALUE true = 1").go("forget = 0; setAnchor 3 = NONE; setKey 0 0 1 = NONE; setKey 0 1 1 = NONE;"
            + "told = NONE NONE NONE NONE NONE");
        due.sentence("objects do not share anything");
        Play one = play("zone 1 5; do 0 put 1 VALUE 5 5; resolve 1 VALUE; put 2 VALUE 2 2; setAnchor 3; setKey 0 0 3;"
            + "pass 5; setDead 0 true");
        play("zoneHas 1 0 = Index; zoneHas 0 2 = 0; put 1 VALUE 1 1 = 1; told 0 = NONE; setAnchor 3 = NONE;"
            + "setKey 0 0 3 = NONE; pass 1 = 1")
            .go("resolve 1 VALUE = NO_NAME; forget = 1");
        one.go("zoneHas 0 2 = 1; put 3 VALUE 3 3 = 2; told 0 = 5; pass 1 = 6; forget = 0");
    }

    private void zone() {
        due.sentence("apex: a name, not 0");
        play("zone 0 5 = Argument").each("zone ? 5 = Argument", NO_NAMES)
            .go("zone 1 5 = 1; zone 9999 5 = 2; zone 1111 5 = 3")
            .go("zone 9 5 = 4; zoneHas 1 0 = 1; zoneHas 2 0 = 9999; zoneHas 3 0 = 1111; zoneHas 4 0 = 9");
        due.sentence("life: 1 to 50");
        play("").each("zone 1 ? = Argument", "0 -1 51 100 MIN MAX").go("zone 1 1 = 1; zone 2 50 = 2");
        due.sentence("Returns its number");
        play("zone 7 5 = 1; zone 6 5 = 2; zone 77 5 = 3; zone 777 5 = 4; zone 7777 5 = 5; zoneHas 5 0 = 7777;"
            + "zoneHas 1 0 = 7");
        due.sentence("Throws IllegalStateException if there are 6");
        full("zone 6 5 = State; zone 1 5 = State; zone 0 5 = Argument; zone 6 51 = Argument; zoneHas 5 0 = 5;"
            + "zoneHas 6 0 = Index");
        due.sentence("or one is at that name");
        play("zone 1 5 = 1; zone 1 7 = State; zone 11 5 = 2; zone 1 5 = State; zone 11 5 = State;"
            + "zone 1 0 = Argument; zone 2 5 = 3");
    }

    /** What the calls that tell have in common; the rest of the row, and its number, belong to the call. */
    private void tells(String call, String rest) {
        due.sentence(call + ": name: a name or star");
        play("").each(call + " ? VALUE " + rest + " = Argument", NO_PLACES).go(call + " 0 VALUE " + rest + " = 1")
            .go(call + " 9999 VALUE " + rest + " = 2; " + call + " 10 VALUE " + rest + " = 3; " + call
            + " 9990 VALUE " + rest + " = 4")
            .go(call + " 1 VALUE " + rest + " = 5; " + call + " 1110 VALUE " + rest + " = 6; " + call
            + " 1111 VALUE " + rest + " = 7");
        due.sentence(call + ": sort: VALUE to TRUST");
        play("").each(call + " 1 ? " + rest + " = Argument", NO_SORTS)
            .go(call + " 1 VALUE " + rest + " = 1; " + call + " 1 ALIAS " + rest
            + " = 2; " + call + " 1 TREE " + rest + " = 3; " + call + " 1 CUT " + rest + " = 4; " + call
            + " 1 TRUST " + rest + " = 5");
        due.sentence(call + ": Returns how many conditions and changes are told then");
        play("need 1 VALUE true = 1; put 1 VALUE 1 1 = 2; drop 1 VALUE = 3; " + call + " 2 VALUE " + rest + " = 4;"
            + "update 0; " + call
            + " 2 VALUE " + rest + " = 1");
        due.sentence(call + ": Throws IllegalStateException if there are 10");
        tenTold().go(call + " 1 VALUE " + rest + " = State; " + call + " 1 VALUE " + rest + " = State; update 0 = true")
            .go(call + " 1 VALUE " + rest + " = 1");
        due.sentence(call + ": the one that it lists first is thrown");
        tenTold().go(call + " 100 VALUE " + rest + " = Argument; " + call + " 1 5 " + rest + " = Argument");
    }

    private void put() {
        due.sentence("number: 0 to 99 for VALUE");
        play("").each("put 1 VALUE ? 1 = Argument", "-1 100 MIN MAX").go("put 1 VALUE 0 1 = 1; put 1 VALUE 99 1 = 2");
        due.sentence("a name for ALIAS and TREE");
        play("").each("put 1 ALIAS ? 1 = Argument", NO_NAMES).each("put 1 TREE ? 1 = Argument", NO_NAMES)
            .go("put 1 ALIAS 0 1 = 1; put 1 ALIAS 9999 1 = 2; put 1 TREE 0 1 = 3; put 1 TREE 9999 1 = 4;"
            + "put 1 ALIAS 1 1 = 5");
        due.sentence("0 to 5 for CUT");
        play("").each("put 1 CUT ? 1 = Argument", "-1 6 MIN MAX").go("put 1 CUT 0 1 = 1; put 1 CUT 5 1 = 2");
        due.sentence("0 to 996 for TRUST");
        play("").each("put 1 TRUST ? 1 = Argument", "-1 997 MIN MAX").go("put 1 TRUST 0 1 = 1; put 1 TRUST 996 1 = 2");
        due.sentence("life: 1 to 50");
        play("").each("put 1 VALUE 1 ? = Argument", "0 -1 51 MIN MAX").go("put 1 VALUE 1 1 = 1; put 1 VALUE 1 50 = 2");
        due.sentence("put: Throws IllegalArgumentException if an argument is out of range, "
            + "ahead of IllegalStateException");
        tenTold().go("put 1 VALUE 100 1 = Argument; put 1 CUT 6 1 = Argument; put 1 VALUE 1 0 = Argument;"
            + "put 1 VALUE 1 51 = Argument");
    }

    private void ofZones() {
        due.sentence("Throws IndexOutOfBoundsException if there is no such zone");
        for (String call
            : new String[] {"update ?", "zoneHas ? 0", "record ? 1 VALUE", "bringUp ?", "setDead ? true", "ask ? 1 "
            + "VALUE",
            "neighbour ? 1 true", "setKey ? 0 1", "setWindow ? 0 1"}) {
            play("zone 1 5").each(call + " = Index", "-1 2 6 MIN MAX").each(call, "0 1").go("zone 2 5")
                .each(call.replace("1 VALUE", "2 VALUE"), "0 2").each(call + " = Index", "3");
            full("").each(call + " = Index", "-1 6 7 MIN MAX").each(call.replace("1 VALUE", "5 VALUE"), "0 5");
        }
        due.sentence("if several apply, the one that it lists first is thrown");
        play("").each("zoneHas 1 ? = Index", "-1 5").each("record 1 ? VALUE = Index", NO_PLACES)
            .each("record 1 1 ? = Index", NO_SORTS)
            .each("ask 1 ? VALUE = Index", NO_NAMES).each("ask 1 1 ? = Index", NO_SORTS)
            .each("neighbour -1 ? true = Index", NO_PLACES)
            .each("setKey 1 ? 0 = Index", "-1 2").each("setKey 1 0 ? = Index", "-2 100")
            .each("setWindow 1 ? 5 = Index", "-1 6 10001");
        due.sentence("what: 0 its apex, 1 its serial, 2 how many records it has, 3 the serial of its copy, "
            + "4 how many names");
        play("").each("zoneHas 0 ? = Argument", "-1 5 6 MIN MAX").each("zoneHas 0 ?", "0 1 2 3 4");
        due.sentence("3 the serial of its copy, NONE without one");
        play("update 0; zoneHas 0 3 = NONE; bringUp 0; zoneHas 0 3 = 1; update 0; zoneHas 0 3 = 1; zoneHas 0 1 = 2;"
            + "bringUp 0; zoneHas 0 3 = 2");
        due.sentence("record: name: a name or star; sort: VALUE to TRUST");
        play("").each("record 0 ? VALUE = Argument", NO_PLACES).each("record 0 1 ? = Argument", NO_SORTS)
            .each("record 0 ? VALUE = NONE", "0 1 10 9990 9999 1111").each("record 0 1 ? = NONE", SORTS);
        due.sentence("Returns the number of a record; NONE if there is none");
        play("zone 1 5; do 0 put 10 VALUE 0 1; record 0 10 VALUE = 0; record 0 11 VALUE = NONE;"
            + "record 0 1 VALUE = NONE; record 1 10 VALUE = NONE")
            .go("record 1 2 VALUE = NONE; do 0 drop 10 VALUE; record 0 10 VALUE = NONE");
    }

    private void ask() {
        due.sentence("ask: name: a name; sort: VALUE to TRUST");
        play("").each("ask 0 ? VALUE = Argument", NO_NAMES).each("ask 0 1 ? = Argument", NO_SORTS)
            .each("ask 0 ? VALUE = NO_NAME", "0 1 9999")
            .each("ask 0 1 ? = NO_NAME", SORTS);
        due.sentence("Throws IllegalStateException if the name is not under its apex");
        play("zone 12 5").each("ask 1 ? VALUE = State", "0 1 2 11 13 21 112 212 1121 2112 9999")
            .each("ask 1 ? VALUE = NO_NAME", "12 121 129 1234");
        due.sentence("ask: the one that it lists first is thrown");
        play("zone 12 5").each("ask 1 ? VALUE = Argument", NO_NAMES).each("ask 1 1 ? = Argument", NO_SORTS)
            .go("ask 2 1 VALUE = Index");
    }

    private void told() {
        due.sentence("told: Throws IllegalArgumentException if what is out of range");
        play("").each("told ? = Argument", "-1 5 6 MIN MAX").go("ask 0 1 VALUE")
            .each("told ? = Argument", "-1 5 6 MIN MAX");
        due.sentence("Returns as told; NONE if there was none");
        play("told = NONE NONE NONE NONE NONE; ask 1 1 VALUE = Index; ask 0 10 VALUE = Argument;"
            + "resolve 10 VALUE = Argument")
            .go("resolveAnew 1 5 = Argument; zone 1 5; ask 1 2 VALUE = State; trust 1 VALUE;"
            + "told = NONE NONE NONE NONE NONE");
        due.sentence("Tells of the latest ask(), resolve() or resolveAnew(), that did not throw");
        play("zone 1 5; do 0 put 1 VALUE 5 9; ask 0 1 VALUE; told = 5 1 9 1 0; resolve 2 VALUE; told = NONE 2 10 1 0;"
            + "resolveAnew 1 VALUE")
            .go("told = 5 1 9 1 0; ask 1 2 VALUE = State; ask 1 10 VALUE = Argument; ask 2 1 VALUE = Index;"
            + "resolve 10 VALUE = Argument")
            .go("resolveAnew 2 -1 = Argument; trust 3 VALUE; forget; pass 5; do 0 drop 1 VALUE; told = 5 1 9 1 0");
        due.sentence("0 the number that was FOUND, otherwise NONE");
        Play.threeZones(due).go("do 1 put 11 ALIAS 5 3; do 1 put 13 VALUE 0 9; ask 1 13 VALUE = FOUND; told 0 = 0;"
            + "ask 1 13 TREE = NO_DATA; told 0 = NONE")
            .go("ask 1 14 VALUE = NO_NAME; told 0 = NONE; ask 1 12 VALUE = REFERRED; told 0 = NONE;"
            + "ask 1 11 VALUE = LED; told 0 = NONE")
            .go("do 1 put 15 ALIAS 15 3; ask 1 15 VALUE = LOST; told 0 = NONE; resolve 15 VALUE = FAILED;"
            + "told 0 = NONE");
        due.sentence("1 the name at which it ended, REFERRED or LED to, NONE if it is LOST or FAILED");
        Play.threeZones(due).go("do 1 put 11 ALIAS 5 3; do 1 put 13 ALIAS 14 9; ask 1 13 VALUE = NO_NAME;"
            + "told 1 = 14; ask 1 11 VALUE = LED; told 1 = 5")
            .go("ask 1 129 VALUE = REFERRED; told 1 = 12; resolve 11 VALUE = NO_NAME; told 1 = 5;"
            + "resolve 0 VALUE = NO_DATA; told 1 = 0")
            .go("do 1 put 15 ALIAS 15 3; ask 1 15 VALUE = LOST; told 1 = NONE; resolve 15 VALUE = FAILED;"
            + "told 1 = NONE");
        due.sentence("2 the life .. 0 if it is LOST, FAILED, or old");
        Play.threeZones(due).go("ask 1 12 VALUE = REFERRED; told 2 = 15; do 1 put 15 ALIAS 15 3;"
            + "ask 1 15 VALUE = LOST; told 2 = 0")
            .go("resolve 15 VALUE = FAILED; told 2 = 0; resolve 16 VALUE = NO_NAME; told 2 = 5; pass 5;"
            + "setDead 1 true; resolve 16 VALUE; told 2 = 0");
        due.sentence("the least one of all parts that gave the answer, LED ones as well, REFERRED ones on the way not");
        for (int[] life : new int[][] {{3, 9}, {9, 3}, {5, 5}, {1, 50}, {50, 1}}) {
            play("zone 1 5; zone 2 5; put 1 CUT 1 2; put 2 CUT 2 2; update 0; do 1 put 11 ALIAS 22 " + life[0] + ";"
                + "do 2 put 22 VALUE 7 " + life[1])
                .go("resolve 11 VALUE = FOUND; told = 7 22 " + Math.min(life[0], life[1]) + " 4 0;"
                + "resolveAnew 11 VALUE; told 2 = "
                    + Math.min(life[0], life[1]));
        }
        due.sentence("where that of what is kept is for how long it still holds");
        play("zone 1 5; zone 2 5; put 1 CUT 1 2; put 2 CUT 2 2; update 0; do 1 put 11 ALIAS 22 9;"
            + "do 2 put 22 VALUE 7 20; resolve 22 VALUE; pass 15")
            .go("resolve 11 VALUE; told = 7 22 5 2 0; pass 3; resolve 11 VALUE; told = 7 22 2 0 0; pass 2;"
            + "resolve 11 VALUE; told = 7 22 4 2 0");
        due.sentence("3 how many questions to zones it took; by ask() 1 question, and not old");
        Play.threeZones(due).go("resolve 121 VALUE; told 3 = 3; resolve 121 VALUE; told 3 = 0; ask 2 121 VALUE;"
            + "told 3 = 1; told 4 = 0; pass 50")
            .go("setDead 2 true; resolve 121 VALUE = NO_NAME; told 3 = 3; told 4 = 1; ask 2 121 VALUE; told 3 = 1;"
            + "told 4 = 0");
    }

    private void neighbour() {
        due.sentence("neighbour: name: a name, or a star");
        play("").each("neighbour 0 ? true = Argument", NO_PLACES).each("neighbour 0 ? false = Argument", NO_PLACES)
            .each("neighbour 0 ? true = NONE", "0 1 10 9990 9999")
            .each("neighbour 0 ? false = NONE", "0 1 10 9990 9999");
        due.sentence("the last one that is not behind it, or the first one that is behind it");
        play("zone 12 5; do 1 put 1230 VALUE 1 1; neighbour 1 1230 false = 1230; neighbour 1 1230 true = NONE;"
            + "neighbour 1 1229 false = 12")
            .go("neighbour 1 12 false = 12; neighbour 1 12 true = 123; neighbour 1 1 true = 12;"
            + "neighbour 1 1 false = NONE; neighbour 1 123 true = 1230")
            .go("neighbour 1 0 false = NONE; neighbour 1 0 true = 12; neighbour 1 9999 false = 1230;"
            + "neighbour 1 1231 false = 1230; neighbour 1 120 true = 123");
        due.sentence("Returns the neighbour; NONE if there is none");
        play("do 0 put 5 VALUE 1 1; neighbour 0 0 false = 0; neighbour 0 0 true = 5; neighbour 0 5 true = NONE;"
            + "neighbour 0 49 false = 0; neighbour 0 50 false = 5");
    }

    private void resolver() {
        for (String call : new String[] {"resolve", "resolveAnew", "trust"}) {
            due.sentence(call + ": Throws IllegalArgumentException if name or sort is out of range");
            play("").each(call + " ? VALUE = Argument", NO_NAMES).each(call + " 1 ? = Argument", NO_SORTS)
                .go("forget = 0")
                .each(call + " 1 ?", SORTS).each(call + " ? VALUE", "0 1 9 9999 1111");
        }
        due.sentence("Returns FOUND, NO_DATA, NO_NAME or FAILED");
        play("do 0 put 1 VALUE 5 5; resolve 1 VALUE = FOUND; resolve 1 TREE = NO_DATA; resolve 2 VALUE = NO_NAME;"
            + "setDead 0 true")
            .go("resolve 3 VALUE = FAILED; resolveAnew 1 VALUE = FAILED; setDead 0 false; resolveAnew 1 VALUE = FOUND")
            .go("resolveAnew 1 TREE = NO_DATA; resolveAnew 2 VALUE = NO_NAME");
        due.sentence("Resolves without anything that is kept");
        Play.threeZones(due).go("do 2 put 121 VALUE 5 9; resolve 121 VALUE; do 2 put 121 VALUE 6 9;"
            + "resolveAnew 121 VALUE = FOUND; told = 6 121 9 3 0")
            .go("pass 9; setDead 2 true; resolveAnew 121 VALUE = FAILED; told = NONE NONE 0 3 0;"
            + "resolve 121 VALUE = FOUND; told = 5 121 0 1 1");
        due.sentence("and keeps nothing");
        Play.threeZones(due).go("resolveAnew 121 VALUE; forget = 0; resolveAnew 121 VALUE; resolve 121 VALUE;"
            + "told 3 = 3; resolve 122 VALUE; told 3 = 1")
            .go("resolveAnew 123 VALUE; told 3 = 3; forget = 2; resolve 11 VALUE; pass 4; resolveAnew 11 VALUE;"
            + "told 2 = 5; resolve 11 VALUE; told 2 = 1");
        due.sentence("resolveAnew: keeps nothing, also not anew what had ended");
        Play.threeZones(due).go("resolve 11 VALUE; pass 5; resolveAnew 11 VALUE; forget = 0");
        due.sentence("Forgets all that is kept");
        Play.threeZones(due).go("resolve 121 VALUE; told 3 = 3; forget = 1; resolve 121 VALUE; told 3 = 3;"
            + "forget = 1; setDead 0 true")
            .go("resolve 121 VALUE = FAILED; told = NONE NONE 0 1 0; setDead 0 false; resolve 0 VALUE = NO_DATA;"
            + "told 3 = 1; forget = 1");
        due.sentence("Returns how many answers still held");
        play("forget = 0; do 0 put 1 VALUE 5 3; resolve 1 VALUE; resolve 2 VALUE; forget = 2; forget = 0;"
            + "resolve 1 VALUE; resolve 2 VALUE; pass 2")
            .go("forget = 2; resolve 1 VALUE; resolve 2 VALUE; pass 3; forget = 1; resolve 2 VALUE; pass 9;"
            + "forget = 1; resolve 2 VALUE; pass 10; forget = 0");
    }

    private void passing() {
        due.sentence("time: 1 to 100");
        play("").each("pass ? = Argument", "0 -1 101 1000 MIN MAX").go("pass 1 = 1; pass 100 = 101");
        due.sentence("Returns now");
        Play play = play("");
        for (int i = 1; i <= 510; i++) {
            play.go("pass 100 = " + 100 * i);
        }
    }

    private void lastCall() {
        due.sentence("An object is used for at most 512 calls after it has been made");
        Play play = play("");
        for (int i = 1; i <= 509; i++) {
            play.go("update 0 = true");
        }
        play.go("zoneHas 0 1 = 13; resolve 1 VALUE = NO_NAME; forget = 1");
        play = play("");
        for (int i = 1; i <= 255; i++) {
            play.go("pass 10 = " + 10 * i + "; resolve " + (1 + i % 9) + " VALUE = NO_NAME");
        }
        play.go("told 3 = 1; forget = 1");
    }

    private void keys() {
        due.sentence("slot: 0 or 1");
        play("").each("setKey 0 ? 5 = Argument", "-1 2 MIN MAX")
            .go("setKey 0 0 5 = NONE; setKey 0 1 6 = NONE; setKey 0 0 7 = 5; setKey 0 1 8 = 6");
        due.sentence("key: 0 to 99, or NONE");
        play("").each("setKey 0 0 ? = Argument; setKey 0 1 ? = Argument; setAnchor ? = Argument", "-2 100 101 MIN MAX")
            .go("setKey 0 0 0 = NONE; setKey 0 0 99 = 0; setKey 0 0 NONE = 99; setAnchor 0 = NONE; setAnchor 99 = 0;"
            + "setAnchor NONE = 99");
        due.sentence("Returns the key before, NONE for none");
        full("setKey 5 1 9 = NONE; setKey 5 1 NONE = 9; setKey 5 1 NONE = NONE; setKey 5 0 3 = NONE;"
            + "setKey 4 0 4 = NONE; setKey 5 0 3 = 3");
        due.sentence("Returns the anchor before, NONE for none");
        play("setAnchor 7 = NONE; setAnchor 7 = 7; setAnchor NONE = 7; setAnchor NONE = NONE; setAnchor 0 = NONE;"
            + "setAnchor 1 = 0");
        due.sentence("from: 0 to 10000; to: from to 10000");
        play("").each("setWindow 0 ? 10000 = Argument", "-1 10001 MIN MAX")
            .each("setWindow 0 5 ? = Argument", "4 0 -1 10001 MIN MAX")
            .go("setWindow 0 10001 10001 = Argument; setWindow 0 MAX MAX = Argument")
            .go("setWindow 0 MIN MIN = Argument; setWindow 0 0 0; setWindow 0 10000 10000; setWindow 0 0 10000;"
            + "setWindow 0 5 5; setWindow 0 5 6");
    }

    public static void main(String[] args) {
        EdgesOfCallsTest test = new EdgesOfCallsTest();
        test.newObject();
        test.zone();
        test.tells("need", "true");
        test.tells("put", "1 1");
        test.tells("drop", "");
        test.put();
        test.ofZones();
        test.ask();
        test.told();
        test.neighbour();
        test.resolver();
        test.passing();
        test.lastCall();
        test.keys();
        test.due.end();
    }
}
