/** The sentences of the section Terms about updates, and about copies. */
public final class EdgesOfUpdatesTest {
    private final Due due = new Due();

    private Play play(String rows) {
        return new Play(due, rows);
    }

    private void conditions() {
        due.sentence("If a condition is not met, by the records ahead of the update .. nothing is done at all");
        play("do 0 put 1 VALUE 5 5; need 1 VALUE true; put 2 VALUE 6 6; update 0 = true; record 0 2 VALUE = 6");
        play("do 0 put 1 VALUE 5 5; need 1 VALUE false; put 2 VALUE 6 6; update 0 = false; record 0 2 VALUE = NONE");
        play("need 1 VALUE false; put 2 VALUE 6 6; update 0 = true; record 0 2 VALUE = 6");
        play("need 1 VALUE true; put 2 VALUE 6 6; update 0 = false; record 0 2 VALUE = NONE");
        play("put 1 VALUE 5 5; need 1 VALUE true; update 0 = false; record 0 1 VALUE = NONE");
        play("put 1 VALUE 5 5; need 1 VALUE false; update 0 = true; record 0 1 VALUE = 5");
        play("do 0 put 1 VALUE 5 5; drop 1 VALUE; need 1 VALUE true; update 0 = true; record 0 1 VALUE = NONE");
        play("do 0 put 1 VALUE 5 5; drop 1 VALUE; need 1 VALUE false; update 0 = false; record 0 1 VALUE = 5");
        due.sentence("that a record of a sort is at a name or star, or is not");
        play("do 0 put 1 VALUE 5 5; need 1 ALIAS true; update 0 = false; need 10 VALUE true; update 0 = false")
            .go("need 10 VALUE false; update 0 = true; need 1 TREE false; update 0 = true; zoneHas 0 1 = 3")
            .go("do 0 put 10 VALUE 5 5; need 10 VALUE true; update 0 = true; need 11 VALUE true; update 0 = false");
        due.sentence("some conditions: each of 10 counts, the first and the last as well");
        for (int broken = 0; broken <= 10; broken++) {
            Play play = play("do 0 put 1 VALUE 5 5");
            for (int i = 1; i <= 10; i++) {
                play.go("need 1 VALUE " + (i != broken) + " = " + i);
            }
            play.go("update 0 = " + (broken == 0) + "; zoneHas 0 1 = " + (broken == 0 ? 2 : 1));
        }
    }

    private void changes() {
        due.sentence("some changes .. in the order in which they were told");
        play("put 1 VALUE 5 5; put 1 VALUE 6 6; update 0 = true; record 0 1 VALUE = 6; put 1 VALUE 7 7; drop 1 VALUE")
            .go("update 0 = true; record 0 1 VALUE = NONE; put 1 VALUE 1 1; drop 1 VALUE; put 1 VALUE 8 8")
            .go("update 0 = true; record 0 1 VALUE = 8");
        due.sentence("a record to be dropped is not there, by what was done till then");
        play("do 0 drop 1 VALUE = false; zoneHas 0 1 = 0; put 1 VALUE 5 5; drop 1 VALUE; update 0 = true;"
            + "zoneHas 0 1 = 1")
            .go("drop 1 VALUE; put 1 VALUE 5 5; update 0 = false; record 0 1 VALUE = NONE; do 0 put 1 VALUE 5 5")
            .go("drop 1 VALUE; drop 1 VALUE; update 0 = false; record 0 1 VALUE = 5; do 0 drop 1 ALIAS = false")
            .go("do 0 drop 10 VALUE = false; drop 1 VALUE; put 1 VALUE 6 6; drop 1 VALUE; update 0 = true;"
            + "zoneHas 0 2 = 0");
        due.sentence("or all that has been done does not fit what is told above, nothing is done at all");
        play("do 0 put 9 VALUE 9 9; put 1 VALUE 5 5; put 9 VALUE 8 8; put 1 ALIAS 2 2; update 0 = false;"
            + "zoneHas 0 2 = 1")
            .go("record 0 9 VALUE = 9; record 0 1 VALUE = NONE; zoneHas 0 1 = 1; drop 9 VALUE; put 10 TREE 2 2")
            .go("update 0 = false; record 0 9 VALUE = 9; put 9 VALUE 1 1; drop 5 VALUE; update 0 = false;"
            + "record 0 9 VALUE = 9");
        play("put 1 ALIAS 2 2; put 1 VALUE 5 5; drop 1 ALIAS; update 0 = true; record 0 1 VALUE = 5");
        play("zone 1 5; put 2 VALUE 1 1; drop 2 VALUE; put 11 VALUE 1 1; update 1 = true; zoneHas 1 2 = 1");
        play("put 1 TREE 2 2; put 11 VALUE 1 1; drop 1 TREE; update 0 = true; zoneHas 0 2 = 1");
        play("put 1 TRUST 2 2; drop 1 TRUST; put 1 CUT 5 5; drop 1 CUT; update 0 = true; zoneHas 0 2 = 0");
    }

    private void serials() {
        due.sentence("otherwise the serial, 0 at first, becomes 1 more, or 0 behind 15");
        Play play = play("zone 1 5; zoneHas 0 1 = 0; zoneHas 1 1 = 0");
        for (int i = 1; i <= 50; i++) {
            play.go("update 0 = true; zoneHas 0 1 = " + i % 16);
        }
        play.go("zoneHas 1 1 = 0; update 1 = true; zoneHas 1 1 = 1; zoneHas 0 1 = 2");
        due.sentence("nothing is done at all: the serial stays");
        for (int start : new int[] {0, 1, 14, 15, 16}) {
            Play other = play("do 0 put 1 VALUE 5 5");
            for (int i = 1; i < start; i++) {
                other.go("update 0");
            }
            String serial = "; zoneHas 0 1 = " + (start == 0 ? 1 : start % 16);
            other.go("need 1 VALUE false; update 0 = false" + serial).go("do 0 drop 2 VALUE = false" + serial)
                .go("do 0 put 1 ALIAS 2 2 = false" + serial);
        }
        due.sentence("without conditions and changes it is");
        play("update 0 = true; zoneHas 0 1 = 1; zoneHas 0 2 = 0; zone 1 5; update 1 = true; zoneHas 1 1 = 1");
    }

    private void told() {
        due.sentence("nothing is told then, in any case");
        play("put 1 VALUE 5 5 = 1; drop 1 VALUE = 2; update 0 = true; put 1 VALUE 5 5 = 1; update 0 = true;"
            + "need 1 VALUE true = 1");
        play("need 1 VALUE true = 1; put 1 VALUE 5 5 = 2; update 0 = false; update 0 = true; record 0 1 VALUE = NONE")
            .go("need 1 VALUE false = 1; put 1 VALUE 5 5 = 2; update 0 = true; record 0 1 VALUE = 5");
        play("put 1 VALUE 5 5 = 1; drop 2 VALUE = 2; update 0 = false; update 0 = true; record 0 1 VALUE = NONE;"
            + "drop 1 TREE = 1");
        play("put 1 VALUE 5 5 = 1; put 10 TREE 5 5 = 2; update 0 = false; update 0 = true; record 0 1 VALUE = NONE")
            .go("need 0 VALUE true = 1");
        due.sentence("update throws IndexOutOfBoundsException: what was told is told still, as nothing is changed");
        play("put 1 VALUE 5 5 = 1; update 1 = Index; update -1 = Index; put 2 VALUE 5 5 = 2; update 0 = true;"
            + "zoneHas 0 2 = 2");
        due.sentence("a change is told to no zone, until the update");
        play("zone 1 5; put 1 VALUE 5 5; update 1 = true; record 0 1 VALUE = NONE; record 1 1 VALUE = 5;"
            + "zoneHas 0 1 = 0");
        due.sentence("IllegalStateException if there are 10");
        for (String last : new String[] {"need 5 VALUE false", "put 5 VALUE 1 1", "drop 4 VALUE"}) {
            Play play = play("need 1 VALUE false = 1; put 1 VALUE 1 1 = 2; drop 1 VALUE = 3; need 2 VALUE false = 4");
            play.go("put 2 VALUE 2 2 = 5; drop 2 VALUE = 6; need 3 VALUE false = 7; put 3 VALUE 3 3 = 8;"
                + "put 4 VALUE 1 1 = 9")
                .go(last + " = 10; need 1 VALUE true = State; put 9 VALUE 9 9 = State; drop 3 VALUE = State")
                .go("update 0 = true; record 0 3 VALUE = 3; record 0 9 VALUE = NONE; need 3 VALUE true = 1");
            play.go("record 0 5 VALUE = " + (last.startsWith("put") ? 1 : -1))
                .go("record 0 4 VALUE = " + (last.startsWith("drop") ? -1 : 1));
        }
    }

    private void differences() {
        due.sentence("differences .. if the serial of the zone is 1 to 4 ahead of that of the copy, going round; "
            + "with the same serial nothing is sent, and the copy stays; otherwise it is whole");
        for (int start = 0; start <= 16; start++) {
            for (int ahead = 0; ahead <= 21; ahead++) {
                Play play = play("put 1 VALUE 1 1; put 2 VALUE 2 2; put 3 VALUE 3 3; update 0; update 0 = true");
                for (int i = 2; i < start + 2; i++) {
                    play.go("update 0");
                }
                play.go("bringUp 0 = 3; zoneHas 0 3 = " + (start + 2) % 16);
                for (int i = 0; i < ahead; i++) {
                    play.go("do 0 put 1 VALUE " + (50 + i) + " 1");
                }
                int serial = (start + 2 + ahead) % 16;
                int round = ahead % 16;
                play.go("bringUp 0 = " + (round == 0 ? 0 : round <= 4 ? 2 : 3) + "; zoneHas 0 3 = " + serial)
                    .go("setDead 0 true; resolve 1 VALUE = FOUND; told 0 = " + (round == 0 ? 1 : 49 + ahead))
                    .go("bringUp 0 = 0");
            }
        }
    }

    private void sent() {
        due.sentence("by differences those that one of both does not have as they are (a changed one twice)");
        Play play = play("put 1 VALUE 1 1; put 20 ALIAS 2 2; put 3 TREE 3 3; update 0; bringUp 0 = 3");
        play.go("do 0 put 4 VALUE 4 4; bringUp 0 = 1; do 0 drop 4 VALUE; bringUp 0 = 1; do 0 put 1 VALUE 9 1;"
            + "bringUp 0 = 2")
            .go("do 0 put 1 VALUE 9 9; bringUp 0 = 2; do 0 put 1 VALUE 8 8; bringUp 0 = 2; do 0 put 1 VALUE 8 8;"
            + "bringUp 0 = 0")
            .go("do 0 put 1 TREE 8 8; bringUp 0 = 1; drop 1 VALUE; drop 1 TREE; put 1 ALIAS 8 8; update 0;"
            + "bringUp 0 = 3")
            .go("do 0 put 5 VALUE 5 5; do 0 drop 5 VALUE; bringUp 0 = 0; do 0 put 1 ALIAS 9 9; do 0 put 1 ALIAS 8 8")
            .go("bringUp 0 = 0; drop 1 ALIAS; put 1 ALIAS 8 8; update 0; bringUp 0 = 0; drop 20 ALIAS; put 2 ALIAS 2 2")
            .go("update 0; bringUp 0 = 2; update 0; zoneHas 0 3 = 15; bringUp 0 = 0; zoneHas 0 3 = 0; update 0 = true")
            .go("bringUp 0 = 0; zoneHas 0 3 = 1; zoneHas 0 1 = 1");
        due.sentence("by differences, at most all of both");
        Play full = play("");
        for (int round = 0; round < 2; round++) {
            for (int i = 1; i <= 20; i++) {
                int place = 11 + (i - 1) / 9 * 10 + (i - 1) % 9;
                full.go("put " + place + " VALUE " + (round * 50 + i) + " 1");
                full.go(i % 10 == 0 ? "update 0 = true" : "");
            }
            full.go(round == 0 ? "bringUp 0 = 20" : "bringUp 0 = 40");
        }
        full.go("bringUp 0 = 0; update 0; update 0; update 0; update 0; bringUp 0 = 0; update 0; update 0; update 0;"
            + "update 0")
            .go("update 0; bringUp 0 = 20; zoneHas 0 2 = 20");
        due.sentence("otherwise all of the zone: none, where it has none");
        play("bringUp 0 = 0; zoneHas 0 3 = 0; bringUp 0 = 0");
        play("do 0 put 1 VALUE 1 1; bringUp 0 = 1; do 0 drop 1 VALUE; update 0; update 0; update 0; update 0;"
            + "bringUp 0 = 0")
            .go("zoneHas 0 3 = 6; setDead 0 true; resolve 1 VALUE = NO_NAME");
    }

    private void copies() {
        due.sentence("A zone may have a copy, of its records as they were when it was brought up, "
            + "with the serial of then");
        play("zone 1 5; zoneHas 0 3 = NONE; do 0 put 5 VALUE 5 5; bringUp 0 = 1; do 0 put 5 VALUE 6 6; zoneHas 0 3 = 1")
            .go("zoneHas 0 1 = 2; zoneHas 1 3 = NONE; setDead 0 true; resolveAnew 5 VALUE = FOUND; told = 5 5 5")
            .go("bringUp 0 = 2; resolveAnew 5 VALUE = FOUND; told = 6 5 6; zoneHas 0 3 = 2; record 0 5 VALUE = 6");
        due.sentence("To bring it up is by differences, if there is a copy");
        play("update 0; do 0 put 1 VALUE 1 1; do 0 put 1 VALUE 2 2; bringUp 0 = 1; zoneHas 0 3 = 3; bringUp 1 = Index");
        due.sentence("otherwise it is whole: without a copy, at each serial");
        for (int serial = 0; serial < 16; serial++) {
            Play play = play("put 1 VALUE 1 1; put 2 VALUE 1 1; update 0");
            for (int i = 1; i < serial + 16; i++) {
                play.go("update 0");
            }
            play.go("zoneHas 0 1 = " + serial + "; zoneHas 0 3 = NONE; bringUp 0 = 2; zoneHas 0 3 = " + serial)
                .go("bringUp 0 = 0; setDead 0 true; resolve 2 VALUE = FOUND");
        }
        due.sentence("A zone can be dead; it is asked by its copy then, if it has one, otherwise it does not answer");
        play("do 0 put 1 VALUE 1 1; setDead 0 true; resolve 1 VALUE = FAILED; bringUp 0 = 1; resolve 1 VALUE = FOUND")
            .go("do 0 put 2 VALUE 1 1; resolveAnew 2 VALUE = NO_NAME; setDead 0 false; resolveAnew 2 VALUE = FOUND")
            .go("setDead 0 true; setDead 0 true; resolveAnew 2 VALUE = NO_NAME; setDead 0 false;"
            + "resolveAnew 2 VALUE = FOUND");
        due.sentence("a copy without records answers as well");
        play("setDead 0 true; resolve 1 VALUE = FAILED; bringUp 0 = 0; resolve 1 VALUE = NO_NAME;"
            + "told = NONE 1 10 1 0");
    }

    public static void main(String[] args) {
        EdgesOfUpdatesTest test = new EdgesOfUpdatesTest();
        test.conditions();
        test.changes();
        test.serials();
        test.told();
        test.differences();
        test.sent();
        test.copies();
        test.due.end();
    }
}
