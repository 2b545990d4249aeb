/** The sentences of the section Terms about how a zone is asked. */
public final class EdgesOfAskingTest {
    private final Due due = new Due();

    private Play play(String rows) {
        return new Play(due, rows);
    }

    private void cuts() {
        due.sentence("1. If a CUT is at a name that it is under, the one nearest to the top counts");
        play("zone 1 5; zone 12 5; zone 123 5; zone 1234 5; do 0 put 1234 CUT 4 4; ask 0 1234 VALUE = REFERRED")
            .go("told = NONE 1234 4 1 0; do 0 put 123 CUT 3 3; ask 0 1234 VALUE = REFERRED; told = NONE 123 3")
            .go("do 0 put 12 CUT 2 2; ask 0 1234 CUT = REFERRED; told = NONE 12 2; do 0 put 1 CUT 1 9")
            .go("ask 0 1234 TRUST = REFERRED; told = NONE 1 9; ask 0 12 CUT = REFERRED; told = NONE 1 9")
            .go("do 0 drop 12 CUT; ask 0 1234 VALUE = REFERRED; told = NONE 1 9; do 0 drop 1 CUT")
            .go("ask 0 1234 VALUE = REFERRED; told = NONE 123 3; ask 0 12 VALUE = NO_DATA; ask 0 0 VALUE = NO_DATA");
        play("zone 1 5; zone 12 5; do 0 put 1 CUT 1 9; do 0 put 12 CUT 2 2; ask 0 12 VALUE = REFERRED;"
            + "told = NONE 1 9");
        due.sentence("unless the name is that, and the sort is CUT or TRUST");
        play("zone 12 5; put 12 CUT 1 9; put 12 VALUE 7 7; put 12 TREE 3 3; update 0 = true")
            .each("ask 0 12 ? = REFERRED; told = NONE 12 9 1 0", "VALUE ALIAS TREE")
            .go("ask 0 12 CUT = FOUND; told = 1 12 9; ask 0 12 TRUST = NO_DATA; told = NONE 12 10; put 12 TRUST 5 5")
            .go("update 0 = true; ask 0 12 TRUST = FOUND; told = 5 12 5; ask 0 1 CUT = NO_DATA;"
            + "ask 0 1 TRUST = NO_DATA")
            .each("ask 0 121 ? = REFERRED; told = NONE 12 9 1 0", "VALUE ALIAS TREE CUT TRUST")
            .each("ask 0 1299 ? = REFERRED; told = NONE 12 9 1 0", "VALUE ALIAS TREE CUT TRUST")
            .each("ask 0 13 ? = NO_NAME", "VALUE ALIAS TREE CUT TRUST");
        due.sentence("of REFERRED the life is that of the CUT: the TRUST's counts not");
        play("zone 1 5; put 1 CUT 1 50; put 1 TRUST 1 1; update 0; ask 0 1 VALUE = REFERRED; told 2 = 50")
            .go("do 0 put 1 CUT 1 1; ask 0 11 VALUE = REFERRED; told 2 = 1");
        due.sentence("or LED, to the name, if that has become another one by then, perhaps the same again");
        play("zone 12 5; do 0 put 12 CUT 1 9; do 0 put 5 ALIAS 12 20; do 0 put 6 ALIAS 1234 3; do 0 put 7 TREE 12 8")
            .each("ask 0 5 ? = LED; told = NONE 12 20 1 0", "VALUE TREE").go("ask 0 5 CUT = FOUND; told = 1 12 9")
            .go("ask 0 5 TRUST = NO_DATA; told = NONE 12 10; ask 0 5 ALIAS = FOUND; told = 12 5 20")
            .go("ask 0 6 CUT = LED; told = NONE 1234 3; ask 0 71 VALUE = LED; told = NONE 121 8;"
            + "ask 0 7 VALUE = NO_DATA")
            .go("do 0 put 80 ALIAS 5 30; ask 0 81 VALUE = LED; told = NONE 12 20; zone 121 5; do 0 put 121 CUT 2 1")
            .go("ask 0 6 VALUE = LED; told = NONE 1234 3");
    }

    private void trees() {
        due.sentence("2. If a TREE is at a name that it is strictly under");
        play("put 12 TREE 3 9; put 12 VALUE 7 7; update 0; ask 0 12 VALUE = FOUND; told = 7 12 7;"
            + "ask 0 12 TREE = FOUND")
            .go("told = 3 12 9; ask 0 12 ALIAS = NO_DATA; told = NONE 12 10; ask 0 121 TREE = NO_NAME;"
            + "told = NONE 31 9")
            .go("ask 0 1 VALUE = NO_DATA; ask 0 13 VALUE = NO_NAME; told = NONE 13 10; do 0 put 31 VALUE 8 8")
            .go("ask 0 121 VALUE = FOUND; told = 8 31 8; do 0 put 31 VALUE 8 20; ask 0 121 VALUE = FOUND;"
            + "told = 8 31 9");
        due.sentence("its figures behind that come behind the number of the TREE, and that is the name");
        String[] moves = {"1 2 12 22", "1 2 1234 2234", "12 3 1234 334", "123 4 1239 49", "1 23 145 2345", "1 234 15 "
            + "2345",
            "12 34 1256 3456", "9 89 99 899", "1 0 1234 234", "12 0 123 3", "123 0 1239 9", "12 13 129 139"};
        for (String move : moves) {
            String[] names = move.split(" ");
            play("do 0 put " + names[0] + " TREE " + names[1] + " 9; ask 0 " + names[2] + " VALUE = NO_NAME")
                .go("told = NONE " + names[3] + " 9; do 0 put " + names[3] + " VALUE 5 50")
                .go("ask 0 " + names[2] + " VALUE = FOUND; told = 5 " + names[3] + " 9");
        }
        play("do 0 put 0 TREE 5 9; ask 0 0 VALUE = NO_DATA; ask 0 1 VALUE = LOST; told = NONE NONE 0 1 0");
        play("do 0 put 0 TREE 0 9; ask 0 0 VALUE = NO_DATA; ask 0 1 VALUE = LOST; ask 0 1234 VALUE = LOST");
        play("zone 1 5; do 1 put 1 TREE 5 9; ask 1 1 VALUE = NO_DATA; ask 1 1234 VALUE = LED; told = NONE 5234 9");
        due.sentence("If a TREE is at a name: one that was dropped is not");
        play("do 0 put 1 TREE 2 9; do 0 drop 1 TREE; ask 0 11 VALUE = NO_NAME; told = NONE 11 10; put 3 TREE 2 9;"
            + "put 1 TREE 2 9")
            .go("put 4 VALUE 2 9; update 0; bringUp 0; do 0 drop 1 TREE; ask 0 11 VALUE = NO_NAME; told = NONE 11 10;"
            + "ask 0 31 VALUE")
            .go("told = NONE 21 9; bringUp 0; setDead 0 true; resolve 11 VALUE; told = NONE 11 10; setDead 0 false;"
            + "do 0 drop 4 VALUE")
            .go("do 0 drop 3 TREE; ask 0 31 VALUE; told = NONE 31 10; zoneHas 0 2 = 0");
        due.sentence("of TREEs it goes on with 1.: one behind the other, and to the apex");
        play("zone 1 5; put 12 TREE 13 9; put 13 TREE 14 4; put 141 VALUE 5 6; update 1 = true;"
            + "ask 1 121 VALUE = FOUND")
            .go("told = 5 141 4; do 1 put 15 TREE 1 3; ask 1 15 VALUE = NO_DATA; ask 1 1541 VALUE = FOUND;"
            + "told = 5 141 3; ask 1 1542 VALUE = NO_NAME; told = NONE 142 3")
            .go("do 1 put 16 TREE 0 3; ask 1 161 VALUE = NO_DATA; told = NONE 1 3; ask 1 162 VALUE = LED;"
            + "told = NONE 2 3");
    }

    private void names() {
        due.sentence("3. If the name is there: with a record of the sort, that is FOUND");
        play("put 1 VALUE 0 9; put 1 TREE 0 9; update 0; ask 0 1 VALUE = FOUND; told = 0 1 9; ask 0 1 TREE = FOUND;"
            + "told = 0 1 9");
        due.sentence("otherwise, with an ALIAS, its number is the name");
        play("do 0 put 1 ALIAS 2 9; do 0 put 2 VALUE 5 8; ask 0 1 VALUE = FOUND; told = 5 2 8; ask 0 1 ALIAS = FOUND")
            .go("told = 2 1 9; ask 0 1 TREE = NO_DATA; told = NONE 2 9; do 0 put 0 ALIAS 2 7; ask 0 0 VALUE = FOUND;"
            + "told = 5 2 7")
            .go("do 0 put 3 ALIAS 0 6; ask 0 3 VALUE = FOUND; told = 5 2 6; ask 0 11 VALUE = NO_NAME;"
            + "told = NONE 11 10");
        due.sentence("otherwise there is NO_DATA");
        play("put 12 VALUE 5 1; put 340 VALUE 6 1; update 0")
            .each("ask 0 ? ALIAS = NO_DATA; told 2 = 10", "0 1 12 3 34")
            .each("ask 0 ? VALUE = NO_DATA", "0 1 3 34").each("ask 0 ? VALUE = NO_NAME", "2 11 121 35 9999");
    }

    private void stars() {
        due.sentence("4. If it is not there: of the longest name that it is under, and that is there .. "
            + "the star is looked at");
        play("zone 1 5; do 1 put 10 VALUE 5 4; do 1 put 1230 VALUE 6 3")
            .each("ask 1 ? VALUE = FOUND; told 0 = 5", "11 111 1999 13")
            .each("ask 1 ? VALUE = NO_NAME", "121 124 1241 1299").go("ask 1 1231 VALUE = FOUND; told = 6 1231 3")
            .each("ask 1 ? VALUE = NO_DATA", "1 12 123")
            .go("do 1 put 120 ALIAS 1239 2; ask 1 124 VALUE = FOUND; told = 6 1239 2");
        due.sentence("or of the apex, if none is");
        play("zone 12 5; ask 1 12 VALUE = NO_NAME; ask 1 1234 VALUE = NO_NAME; do 1 put 120 VALUE 3 3;"
            + "ask 1 12 VALUE = NO_DATA")
            .go("ask 1 123 VALUE = FOUND; ask 1 1234 VALUE = FOUND; ask 0 1 VALUE = NO_NAME; ask 0 0 VALUE = NO_NAME");
        play("zone 1234 5; ask 1 1234 VALUE = NO_NAME; told = NONE 1234 5; do 1 put 1234 VALUE 3 3;"
            + "ask 1 1234 ALIAS = NO_DATA");
        due.sentence("with a record of the sort there, that is FOUND: at the name, not at the star");
        play("do 0 put 10 VALUE 0 50; ask 0 1234 VALUE = FOUND; told = 0 1234 50; do 0 put 10 VALUE 99 1")
            .go("ask 0 19 VALUE = FOUND; told = 99 19 1");
        due.sentence("otherwise, with an ALIAS, its number is the name");
        play("do 0 put 10 ALIAS 2 7; ask 0 11 VALUE = NO_NAME; told = NONE 2 7; ask 0 11 ALIAS = FOUND; told = 2 11 7")
            .go("do 0 put 2 VALUE 5 9; ask 0 11 VALUE = FOUND; told = 5 2 7; ask 0 1 VALUE = NO_DATA;"
            + "told = NONE 1 10");
        due.sentence("otherwise, if the star is there, there is NO_DATA, and if it is not, NO_NAME");
        play("do 0 put 10 VALUE 5 5").each("ask 0 11 ? = NO_DATA; told = NONE 11 10", "ALIAS TREE CUT TRUST")
            .go("do 0 drop 10 VALUE").each("ask 0 11 ? = NO_NAME; told = NONE 11 10", "VALUE ALIAS TREE CUT TRUST");
        play("do 0 put 120 VALUE 5 5; ask 0 13 ALIAS = NO_NAME; ask 0 121 ALIAS = NO_DATA; ask 0 21 ALIAS = NO_NAME");
        due.sentence("stars that match only what is not there: a name below, or a star below, hides it");
        play("do 0 put 10 VALUE 5 5; do 0 put 120 VALUE 6 6; ask 0 12 VALUE = NO_DATA; do 0 drop 120 VALUE;"
            + "ask 0 12 VALUE = FOUND")
            .go("do 0 put 1234 VALUE 7 7; ask 0 12 VALUE = NO_DATA; ask 0 122 VALUE = NO_NAME; ask 0 13 VALUE = FOUND");
    }

    private void lost() {
        due.sentence("with more than 4 figures .. it is LOST");
        play("do 0 put 1 TREE 23 9; ask 0 123 VALUE = NO_NAME; told 1 = 2323; ask 0 1234 VALUE = LOST;"
            + "told = NONE NONE 0 1 0");
        play("do 0 put 1 TREE 2345 9; ask 0 1 VALUE = NO_DATA; ask 0 12 VALUE = LOST; told = NONE NONE 0;"
            + "ask 0 1234 VALUE = LOST");
        play("do 0 put 0 TREE 1 9; ask 0 1 VALUE = LOST; ask 0 1234 VALUE = LOST; ask 0 0 VALUE = NO_DATA");
        play("do 0 put 123 TREE 9999 9; ask 0 1231 VALUE = LOST; zone 2 5; do 1 put 21 TREE 1234 1;"
            + "ask 1 211 VALUE = LOST");
        due.sentence("or for the 9th time, it is LOST");
        for (int renamed = 1; renamed <= 9; renamed++) {
            Play play = play("zone 5 5");
            for (int i = 1; i <= renamed; i++) {
                play.go("do 1 put " + (510 + i) + " ALIAS " + next(i) + " 9");
            }
            play.go("do 1 put " + next(renamed) + " VALUE 7 50; ask 1 511 VALUE = " + (renamed <= 8 ? "FOUND" : "LOST"))
                .go("told = " + (renamed <= 8 ? "7 " + next(renamed) + " 9" : "NONE NONE 0"));
        }
        play("do 0 put 1 ALIAS 1 9; ask 0 1 VALUE = LOST; ask 0 1 ALIAS = FOUND; told = 1 1 9; do 0 put 20 ALIAS 29 9")
            .go("ask 0 28 VALUE = LOST; told = NONE NONE 0 1 0; do 0 put 3 TREE 3 9; ask 0 31 VALUE = LOST;"
            + "ask 0 3 VALUE = NO_DATA");
        due.sentence("for the 9th time: TREEs, ALIASes and stars' ALIASes count alike");
        String mixed = "zone 7 5; do 1 put 71 TREE 72 9; do 1 put 721 ALIAS 731 9; do 1 put 730 ALIAS 741 9;"
            + "do 1 put 74 TREE 75 9;"
            + "do 1 put 751 ALIAS 761 9; do 1 put 760 ALIAS 771 9; do 1 put 77 TREE 78 9; do 1 put 781 ALIAS 791 9;";
        play(mixed + "ask 1 711 VALUE = NO_NAME; told = NONE 791 5; do 1 put 791 VALUE 6 8; ask 1 711 VALUE = FOUND;"
            + "told = 6 791 8")
            .go("do 1 put 799 ALIAS 711 9; ask 1 799 VALUE = LOST; ask 1 711 VALUE = FOUND");
        due.sentence("the 9th is LOST, though it is not under the apex, or under a CUT; the 8th is LED");
        String eight = mixed + "do 1 drop 781 ALIAS;";
        play(eight + "do 1 put 781 ALIAS 1 9; ask 1 711 VALUE = LED; told = NONE 1 9; do 1 put 799 ALIAS 711 9;"
            + "ask 1 799 VALUE = LOST");
        play(eight + "zone 79 5; do 1 put 79 CUT 2 3; do 1 put 781 ALIAS 799 9; ask 1 711 VALUE = LED;"
            + "told = NONE 799 9")
            .go("do 1 put 70 ALIAS 711 9; ask 1 701 VALUE = Argument; ask 1 788 VALUE = NO_NAME;"
            + "do 1 put 788 ALIAS 711 9")
            .go("ask 1 788 VALUE = LOST");
    }

    /** The names 511 to 519 and then 522, each an ALIAS of the next one. */
    private static int next(int i) {
        return i < 9 ? 511 + i : 522;
    }

    private void led() {
        due.sentence("if it is not under the apex, it is LED, to that name; otherwise it goes on with 1.");
        play("zone 12 5").each("do 1 put 121 ALIAS ? 9; ask 1 121 VALUE = LED;"
            + "told = NONE ? 9 1 0", "0 1 2 11 13 112 2121 9999")
            .go("do 1 put 121 ALIAS 12 9; ask 1 121 VALUE = NO_DATA; told = NONE 12 5; do 1 put 121 ALIAS 129 3")
            .go("ask 1 121 VALUE = NO_NAME; told = NONE 129 3; do 1 put 120 ALIAS 1 2; ask 1 121 VALUE = LED;"
            + "told = NONE 1 2");
        play("do 0 put 1 ALIAS 0 9; ask 0 1 VALUE = NO_DATA; do 0 put 2 ALIAS 9999 9; ask 0 2 VALUE = NO_NAME");
        play("zone 1 5; do 0 put 1 CUT 1 9; do 1 put 11 ALIAS 5 5; ask 0 11 VALUE = REFERRED; ask 1 11 VALUE = LED;"
            + "told = NONE 5 5");
        due.sentence("it goes on with 1.: the CUTs, TREEs and stars of the zone count for the new name");
        play("zone 12 5; do 0 put 12 CUT 1 9; do 0 put 3 TREE 4 9; do 0 put 450 VALUE 5 5; do 0 put 1 ALIAS 351 8")
            .go("ask 0 1 VALUE = FOUND; told = 5 451 5; do 0 put 5 ALIAS 12 7; ask 0 5 VALUE = LED; told = NONE 12 7");
    }

    private void dead() {
        due.sentence("Asks a zone, whether it is dead or not");
        play("do 0 put 1 VALUE 5 5; setDead 0 true; ask 0 1 VALUE = FOUND; told = 5 1 5 1 0; bringUp 0;"
            + "do 0 put 1 VALUE 6 6")
            .go("ask 0 1 VALUE = FOUND; told = 6 1 6 1 0; setDead 0 false; ask 0 1 VALUE = FOUND; told = 6 1 6 1 0");
    }

    public static void main(String[] args) {
        EdgesOfAskingTest test = new EdgesOfAskingTest();
        test.cuts();
        test.trees();
        test.names();
        test.stars();
        test.lost();
        test.led();
        test.dead();
        test.due.end();
    }
}
