/** The sentences of the section Terms about zones, and what records may be in them. */
public final class EdgesOfZonesTest {
    private final Due due = new Due();

    private Play play(String rows) {
        return new Play(due, rows);
    }

    private void numbering() {
        due.sentence("Zones are numbered from 0, at most 6");
        play("zone 1 5 = 1; zone 2 5 = 2; zone 3 5 = 3; zone 4 5 = 4; zone 5 5 = 5; zone 6 5 = State; zone 7 5 = State")
            .go("zoneHas 5 0 = 5; zoneHas 6 0 = Index; zoneHas -1 0 = Index");
        due.sentence("the zone 0 is at the top, and there at first");
        play("zoneHas 0 0 = 0; zoneHas 1 0 = Index; do 0 put 9999 VALUE 1 1; do 0 put 0 VALUE 1 1;"
            + "do 0 put 10 VALUE 1 1");
        due.sentence("Now is 0 at first");
        play("pass 1 = 1");
        play("setAnchor 5; setKey 0 0 5; setWindow 0 0 0; trust 1 VALUE = SECURE");
    }

    private void lives() {
        due.sentence("a life of what is not there, 1 to 50");
        play("zone 1 0 = Argument; zone 1 51 = Argument; zone 1 1 = 1; zone 2 50 = 2")
            .go("ask 1 11 VALUE = NO_NAME; told = NONE 11 1; ask 2 21 VALUE = NO_NAME; told = NONE 21 50");
        due.sentence("with a number and a life, 1 to 50");
        play("put 1 VALUE 7 0 = Argument; put 1 VALUE 7 51 = Argument; put 1 VALUE 7 1 = 1; put 2 VALUE 8 50 = 2")
            .go("update 0 = true; ask 0 1 VALUE = FOUND; told = 7 1 1; ask 0 2 VALUE = FOUND; told = 8 2 50");
    }

    /** A zone with the records 11 to 19 and 21 to 29, and so on, as many as there should be. */
    private Play filled(int records) {
        Play play = play("");
        for (int i = 0; i < records; i++) {
            play.go("put " + (11 + i / 9 * 10 + i % 9) + " VALUE " + i + " 1");
            if (i % 10 == 9 || i == records - 1) {
                play.go("update 0 = true");
            }
        }
        return play.go("zoneHas 0 2 = " + records);
    }

    private void room() {
        due.sentence("records, at most 20");
        filled(19).go("do 0 put 5 VALUE 5 5 = true; zoneHas 0 2 = 20; record 0 5 VALUE = 5");
        filled(20).go("do 0 put 5 VALUE 5 5 = false; zoneHas 0 2 = 20; record 0 5 VALUE = NONE");
        filled(19).go("put 5 VALUE 5 5; put 6 VALUE 5 5; update 0 = false; zoneHas 0 2 = 19");
        filled(20).go("do 0 put 11 VALUE 99 5 = true; zoneHas 0 2 = 20; record 0 11 VALUE = 99");
        filled(20).go("do 0 put 11 TREE 5 5 = false; do 0 put 110 VALUE 1 1 = false; record 0 11 TREE = NONE");
        filled(20).go("put 5 VALUE 5 5; drop 11 VALUE; update 0 = true; zoneHas 0 2 = 20; record 0 5 VALUE = 5");
        filled(20).go("drop 11 VALUE; put 5 VALUE 5 5; update 0 = true; zoneHas 0 2 = 20; record 0 11 VALUE = NONE");
        filled(20).go("put 1 VALUE 1 1; put 2 VALUE 1 1; put 3 VALUE 1 1; put 4 VALUE 1 1; put 5 VALUE 1 1;"
            + "drop 11 VALUE")
            .go("drop 12 VALUE; drop 13 VALUE; drop 14 VALUE; drop 15 VALUE; update 0 = true; zoneHas 0 2 = 20")
            .go("record 0 5 VALUE = 1; record 0 15 VALUE = NONE; record 0 16 VALUE = 5; record 0 32 VALUE = 19;"
            + "record 0 33 VALUE = NONE");
        Play more = filled(20);
        for (int i = 1; i <= 9; i++) {
            more.go("put " + 111 * i + " VALUE 1 1");
        }
        more.go("drop 11 VALUE; update 0 = false; zoneHas 0 2 = 20; record 0 11 VALUE = 0; record 0 111 VALUE = NONE");
        filled(20).go("zone 1 5; put 13 VALUE 1 1; update 1 = true; zoneHas 1 2 = 1");
        due.sentence("0 of them");
        filled(1).go("do 0 drop 11 VALUE; zoneHas 0 2 = 0; zoneHas 0 4 = 0; do 0 drop 11 VALUE = false");
    }

    private void places() {
        due.sentence("each at a name under its apex, or a star of such a one");
        play("zone 12 5").each("do 1 put ? VALUE 1 1 = true", "12 120 121 1210 1299 129 1290")
            .each("do 1 put ? VALUE 1 1 = false", "0 1 10 2 20 11 13 110 130 21 112 1120 212 1122 2120")
            .go("zoneHas 1 2 = 7");
        play("zone 9999 5; do 1 put 9999 VALUE 1 1 = true; do 1 put 9990 VALUE 1 1 = false;"
            + "do 1 put 999 VALUE 1 1 = false");
        play("").each("do 0 put ? VALUE 1 1 = true", "0 1 9 10 90 99 9990 9999 1110 1111");
        due.sentence("of a sort, at most one of a sort at a name");
        play("do 0 put 1 VALUE 5 6; do 0 put 1 VALUE 7 8; zoneHas 0 2 = 1; record 0 1 VALUE = 7; do 0 put 10 VALUE 9 9")
            .go("zoneHas 0 2 = 2; do 0 put 1 TREE 2 3 = false; do 0 drop 10 VALUE; do 0 put 1 TREE 2 3;"
            + "zoneHas 0 2 = 2")
            .go("put 1 VALUE 1 1; put 1 VALUE 2 2; put 1 VALUE 3 3; update 0 = true; record 0 1 VALUE = 3;"
            + "zoneHas 0 2 = 2")
            .go("ask 0 1 VALUE = FOUND; told = 3 1 3");
    }

    private void values() {
        due.sentence("VALUE: the number is 0 to 99");
        play("put 1 VALUE -1 1 = Argument; put 1 VALUE 100 1 = Argument; put 1 VALUE 0 1 = 1; put 2 VALUE 99 1 = 2")
            .go("update 0 = true; record 0 1 VALUE = 0; record 0 2 VALUE = 99; ask 0 1 VALUE = FOUND; told = 0 1 1");
    }

    private void aliases() {
        due.sentence("ALIAS: the number is a name");
        play("").each("put 1 ALIAS ? 1 = Argument", "-1 10 9990 101 10000 11111")
            .go("do 0 put 1 ALIAS 0 1; do 0 put 2 ALIAS 9999 1; record 0 1 ALIAS = 0; record 0 2 ALIAS = 9999");
        due.sentence("nothing else is at that name or star then");
        play("zone 1 5; do 0 put 1 ALIAS 5 5").each("do 0 put 1 ? 1 1 = false", "VALUE TREE CUT")
            .go("put 1 CUT 1 1; put 1 TRUST 1 1; update 0 = false; do 0 put 1 ALIAS 6 6 = true; zoneHas 0 2 = 1")
            .go("do 0 put 10 VALUE 1 1 = true; do 0 put 11 VALUE 1 1 = true; do 0 put 0 VALUE 1 1 = true");
        play("zone 1 5").each("put 1 ? 1 1; put 1 ALIAS 5 5; update 0 = false", "VALUE TREE CUT")
            .each("do 0 put 1 ? 1 1; do 0 put 1 ALIAS 5 5 = false; do 0 drop 1 ?", "VALUE TREE CUT")
            .go("do 0 put 1 ALIAS 5 5 = true; put 1 VALUE 1 1; drop 1 ALIAS; update 0 = true; zoneHas 0 2 = 1");
        play("do 0 put 10 ALIAS 5 5; do 0 put 10 VALUE 1 1 = false; do 0 put 1 VALUE 1 1 = true; do 0 drop 10 ALIAS")
            .go("do 0 put 10 VALUE 1 1 = true; do 0 put 10 ALIAS 1 1 = false; put 10 ALIAS 1 1; drop 10 VALUE")
            .go("update 0 = true; do 0 put 0 ALIAS 1 1; do 0 put 0 VALUE 1 1 = false; do 0 put 0 TREE 1 1 = false");
    }

    private void trees() {
        due.sentence("TREE: the number is a name");
        play("").each("put 1 TREE ? 1 = Argument", "-1 10 9990 101 10000 11111")
            .go("do 0 put 1 TREE 0 1; do 0 put 2 TREE 9999 1; record 0 1 TREE = 0; record 0 2 TREE = 9999");
        due.sentence("at no star");
        play("").each("do 0 put ? TREE 1 1 = false", "10 90 120 1230 9990").go("do 0 put 1234 TREE 1 1 = true");
        due.sentence("at no other name under it, and no star of it or of these, is anything in the zone then");
        play("do 0 put 12 TREE 5 5").each("do 0 put ? VALUE 1 1 = false", "121 129 1211 1299 120 1210 1290")
            .each("do 0 put ? ALIAS 1 1 = false", "121 1211 120 1210").each("do 0 put ? TREE 1 1 = false", "121 1211")
            .each("do 0 put ? VALUE 1 1 = true", "12 1 10 0 11 110 1111 13 130 1311 2 2120 112")
            .go("zone 121 5; do 0 put 121 CUT 1 1 = false; do 0 put 12 TREE 6 6 = true");
        for (String place : "121 129 1211 1299 120 1210 1290".split(" ")) {
            play("do 0 put " + place + " VALUE 1 1; do 0 put 12 TREE 5 5 = false; do 0 put " + place
                + " ALIAS 1 1 = false")
                .go("put 12 TREE 5 5; drop " + place + " VALUE; update 0 = true; record 0 12 TREE = 5")
                .go("put " + place + " VALUE 1 1; drop 12 TREE; update 0 = true; record 0 12 TREE = NONE");
        }
        play("do 0 put 11 VALUE 1 1; do 0 put 0 TREE 1 1 = false; do 0 drop 11 VALUE; do 0 put 0 TREE 1 1 = true")
            .each("do 0 put ? VALUE 1 1 = false", "1 10 9999 9990").go("do 0 put 0 VALUE 1 1 = true");
        play("zone 1 5; do 0 put 1 TREE 2 2; do 0 put 1 CUT 1 1 = true; do 0 put 1 TRUST 1 1 = true");
    }

    private void cuts() {
        due.sentence("CUT: the number is a zone, whose apex is at that name");
        play("put 1 CUT -1 1 = Argument; put 1 CUT 6 1 = Argument; do 0 put 1 CUT 1 1 = false;"
            + "do 0 put 1 CUT 5 1 = false")
            .go("zone 1 5; zone 12 5; do 0 put 1 CUT 1 1 = true; do 0 put 12 CUT 1 1 = false;"
            + "do 0 put 2 CUT 1 1 = false")
            .go("do 0 put 1 CUT 2 1 = false; do 0 put 1 CUT 0 1 = false; do 0 put 12 CUT 2 1 = true")
            .go("do 0 put 11 CUT 1 1 = false; do 0 put 1 CUT 3 1 = false; record 0 1 CUT = 1");
        play("put 1 CUT 1 1; zone 1 5; update 0 = true; zone 2 5; zone 3 5; zone 4 5; zone 9999 5;"
            + "do 0 put 9999 CUT 5 1");
        due.sentence("at no star");
        play("zone 1 5; zone 12 5; do 0 put 10 CUT 1 1 = false; do 0 put 120 CUT 2 1 = false;"
            + "do 1 put 120 CUT 2 1 = false");
        due.sentence("and not at the apex");
        play("zone 1 5; do 1 put 1 CUT 1 1 = false; do 0 put 0 CUT 0 1 = false; zone 12 5; do 2 put 12 CUT 2 1 = false")
            .go("do 2 put 1 CUT 1 1 = false; do 1 put 12 CUT 2 1 = true");
    }

    private void trusts() {
        due.sentence("TRUST: the number is 0 to 996");
        play("zone 1 5; put 1 TRUST -1 1 = Argument; put 1 TRUST 997 1 = Argument; do 0 put 1 CUT 1 1")
            .go("do 0 put 1 TRUST 0 1; record 0 1 TRUST = 0; do 0 put 1 TRUST 996 1; record 0 1 TRUST = 996");
        due.sentence("just where a CUT is");
        play("zone 1 5; do 0 put 1 TRUST 1 1 = false; do 0 put 1 CUT 1 1")
            .each("do 0 put ? TRUST 1 1 = false", "0 10 11 2")
            .go("do 0 put 1 TRUST 1 1 = true; do 0 drop 1 CUT = false; drop 1 CUT; drop 1 TRUST; update 0 = true")
            .go("put 1 TRUST 1 1; put 1 CUT 1 1; update 0 = true; zoneHas 0 2 = 2; do 1 put 1 TRUST 1 1 = false");
    }

    private void there() {
        due.sentence("A name under its apex is there in a zone if a record is at it");
        play("zone 12 5; do 1 put 12 VALUE 1 1; ask 1 12 ALIAS = NO_DATA; ask 1 121 ALIAS = NO_NAME; zoneHas 1 4 = 1");
        due.sentence("or at a name under it");
        play("zone 12 5; do 1 put 1234 VALUE 1 1; zoneHas 1 4 = 3").each("ask 1 ? ALIAS = NO_DATA", "12 123 1234")
            .each("ask 1 ? ALIAS = NO_NAME", "121 1231 124 1233 1235")
            .go("neighbour 1 0 true = 12; neighbour 1 12 true = 123");
        play("do 0 put 1234 VALUE 1 1; zoneHas 0 4 = 5; ask 0 0 VALUE = NO_DATA; ask 0 2 VALUE = NO_NAME");
        due.sentence("or a star of one");
        play("zone 12 5; do 1 put 1230 VALUE 1 1; zoneHas 1 4 = 2; ask 1 12 VALUE = NO_DATA; ask 1 123 VALUE = NO_DATA")
            .go("ask 1 1231 VALUE = FOUND; ask 1 124 VALUE = NO_NAME; ask 1 1241 VALUE = NO_NAME");
        due.sentence("a star is there if a record is at it");
        play("do 0 put 11 VALUE 1 1; neighbour 0 1 true = 11; do 0 put 10 VALUE 1 1; neighbour 0 1 true = 10")
            .go("do 0 drop 11 VALUE; neighbour 0 10 true = NONE; do 0 drop 10 VALUE; neighbour 0 0 false = NONE");
        play("do 0 put 1230 VALUE 1 1; neighbour 0 1 true = 12; neighbour 0 12 true = 123; ask 0 13 VALUE = NO_NAME");
        due.sentence("an object without records has no names there");
        play("zone 1 5; zoneHas 0 4 = 0; zoneHas 1 4 = 0; neighbour 1 1 false = NONE; neighbour 0 0 true = NONE");
    }

    private void own() {
        due.sentence("A name strictly under that of a CUT, and a star of that or of such a one, is not the zone's own");
        play("zone 12 5; do 0 put 12 CUT 1 1").each("do 0 put ? VALUE 1 1", "120 121 1210 1212 123")
            .go("zoneHas 0 4 = 3; neighbour 0 12 true = NONE; neighbour 0 9999 false = 12; do 0 put 13 VALUE 1 1")
            .go("zoneHas 0 4 = 4; neighbour 0 12 true = 13; neighbour 0 1212 false = 12; neighbour 0 120 false = 12")
            .go("do 0 put 110 VALUE 1 1; zoneHas 0 4 = 5; neighbour 0 110 false = 110; do 0 drop 12 CUT;"
            + "zoneHas 0 4 = 8")
            .go("neighbour 0 12 true = 120; neighbour 0 120 true = 121; neighbour 0 121 true = 1210");
        due.sentence("the name of a CUT itself is, if it is not under another one");
        play("zone 12 5; zone 123 5; zone 1 5; do 0 put 12 CUT 1 1; zoneHas 0 4 = 3; do 0 put 123 CUT 2 1;"
            + "zoneHas 0 4 = 3")
            .go("neighbour 0 9999 false = 12; do 0 put 1 CUT 3 1; zoneHas 0 4 = 2; neighbour 0 9999 false = 1")
            .go("do 0 drop 1 CUT; do 0 drop 12 CUT; zoneHas 0 4 = 4; neighbour 0 9999 false = 123;"
            + "neighbour 0 0 true = 1");
    }

    public static void main(String[] args) {
        EdgesOfZonesTest test = new EdgesOfZonesTest();
        test.numbering();
        test.lives();
        test.room();
        test.places();
        test.values();
        test.aliases();
        test.trees();
        test.cuts();
        test.trusts();
        test.there();
        test.own();
        test.due.end();
    }
}
