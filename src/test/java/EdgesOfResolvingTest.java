/** The sentences of the section Terms about the resolver: what it keeps, what is old, and when it FAILS. */
public final class EdgesOfResolvingTest {
    private static final String ALL_SORTS = "VALUE ALIAS TREE CUT TRUST";
    /** Zones 1 at 1 and 2 at 2, cut from the zone 0. */
    private static final String TWO_ZONES = "zone 1 50; zone 2 50; do 0 put 1 CUT 1 50; do 0 put 2 CUT 2 50;";

    private final Due due = new Due();

    private Play play(String rows) {
        return new Play(due, rows);
    }

    private static String pass(int time) {
        StringBuilder rows = new StringBuilder();
        for (int left = time; left > 0; left -= 100) {
            rows.append("pass ").append(Math.min(left, 100)).append(";");
        }
        return rows.toString();
    }

    /** Names of two figures: 11, 12 and so on. */
    private static int name(int i) {
        return 11 + i / 9 * 10 + i % 9;
    }

    private void holding() {
        due.sentence("What was kept at a time holds as long as now is less than that and the life, together");
        for (int start : new int[] {0, 7, 250}) {
            for (int life : new int[] {1, 2, 49, 50}) {
                String apart = "zone 1 " + life + "; do 0 put 1 CUT 1 50; do 1 put 12 VALUE 5 50;"
                    + "resolve 13 VALUE = NO_NAME;";
                hold(start, life, "do 0 put 1 VALUE 5 " + life, "resolve 1 VALUE = FOUND; told 0 = 5");
                hold(start, life, apart, "resolve 12 ALIAS = NO_DATA; told 1 = 12");
                hold(start, life, apart, "resolve 14 VALUE = NO_NAME; told 1 = 14");
                hold(start, life, apart + "do 0 put 2 ALIAS 12 " + life + "; resolve 12 VALUE = FOUND",
                    "resolve 2 VALUE = FOUND; told = 5 12");
            }
        }
        due.sentence("zones at names, by being REFERRED (the life of the CUT)");
        for (int life : new int[] {1, 2, 50}) {
            play("zone 1 5; put 1 CUT 1 " + life + "; put 1 TRUST 1 1; update 0; resolve 11 VALUE = NO_NAME;"
                + "told 3 = 2")
                .go(pass(life - 1) + "resolve 12 VALUE = NO_NAME; told 3 = 1; pass 1; resolve 13 VALUE = NO_NAME;"
                + "told 3 = 2")
                .go("resolve 14 VALUE = NO_NAME; told 3 = 1");
        }
        play("zone 1 5; do 0 put 1 CUT 1 3; setDead 1 true; resolve 11 VALUE = FAILED; told 3 = 2;"
            + "resolve 11 VALUE = FAILED")
            .go("told 3 = 1; pass 3; resolve 11 VALUE = FAILED; told 3 = 2");
    }

    /** An answer that is asked for with one question holds for a life, and is asked for anew behind it. */
    private void hold(int start, int life, String rows, String resolve) {
        Play play = play(pass(start) + rows).go(resolve).go("told 2 = " + life + "; told 3 = 1");
        if (life > 1) {
            play.go(pass(life - 1)).go(resolve).go("told 2 = 1; told 3 = 0");
        }
        play.go("pass 1").go(resolve);
        due.is("asked for anew", play.tree.told(3) > 0, true);
    }

    private void leastLives() {
        due.sentence("of FOUND and LED the least life of all records that it came by, TREEs and ALIASes as well");
        int[][] lives = {{3, 5, 7}, {5, 3, 7}, {7, 5, 3}, {50, 50, 50}, {1, 50, 50}, {50, 1, 50}, {50, 50, 1}};
        for (int[] life : lives) {
            int least = Math.min(life[0], Math.min(life[1], life[2]));
            String rows = "put 1 TREE 2 " + life[0] + "; put 20 ALIAS 4 " + life[1] + "; put 4 VALUE 6 " + life[2]
                + "; update 0;";
            play(rows + "resolve 11 VALUE = FOUND; told = 6 4 " + least).go(least > 1 ? pass(least - 1) : "")
                .go("resolve 11 VALUE = FOUND; told 3 = 0; pass 1; resolve 11 VALUE = FOUND; told 3 = 1");
            int led = Math.min(life[0], life[1]);
            play("zone 4 50; do 0 put 4 CUT 1 1;" + rows.replace("put 4 VALUE", "put 5 VALUE") + "ask 0 11 VALUE = LED")
                .go("told = NONE 4 " + led).go("resolve 11 VALUE = NO_NAME; told = NONE 4 " + Math.min(led, 50))
                .go(led > 1 ? pass(led - 1) : "").go("ask 0 5 VALUE = FOUND; resolve 11 VALUE; told 2 = 1");
        }
        due.sentence("a CUT by which it is LED not");
        play("zone 4 50; do 0 put 4 CUT 1 1; do 0 put 5 ALIAS 4 40; do 1 put 4 VALUE 6 30; resolve 5 VALUE = FOUND;"
            + "told = 6 4 30 3")
            .go("pass 2; resolve 5 VALUE = FOUND; told = 6 4 28 0 0; pass 27; resolve 5 VALUE = FOUND;"
            + "told = 6 4 1 0 0");
        due.sentence("of the others also the zone's life of what is not there");
        play("zone 1 5; do 0 put 1 CUT 1 50; do 1 put 11 ALIAS 12 3; do 1 put 13 ALIAS 12 9;"
            + "resolve 11 VALUE = NO_NAME")
            .go("told = NONE 12 3; resolve 13 VALUE = NO_NAME; told = NONE 12 5; do 1 put 12 VALUE 1 1; pass 3")
            .go("resolve 11 TREE = NO_DATA; told = NONE 12 3; resolve 13 TREE = NO_DATA; told = NONE 12 5;"
            + "resolve 12 TREE = NO_DATA")
            .go("told = NONE 12 5; resolve 13 VALUE = NO_NAME; told = NONE 12 2 0 0");
        play("do 0 put 1 TREE 2 3; resolve 11 VALUE = NO_NAME; told = NONE 21 3; do 0 put 20 VALUE 1 1;"
            + "resolve 12 ALIAS = NO_DATA")
            .go("told = NONE 22 3; resolve 22 ALIAS = NO_DATA; told = NONE 22 10");
    }

    private void answers() {
        due.sentence("for the name and sort that it asked a zone for");
        play("do 0 put 1 VALUE 5 9; resolve 1 VALUE = FOUND; told 3 = 1; resolve 1 VALUE = FOUND; told 3 = 0")
            .each("resolve 1 ? = NO_DATA; told 3 = 1; resolve 1 ? = NO_DATA; told 3 = 0", "ALIAS TREE CUT TRUST")
            .each("resolve ? VALUE; told 3 = 1; resolve ? VALUE; told 3 = 0", "0 11 111 1111 2").go("forget = 10");
        play("do 0 put 1 ALIAS 2 9; do 0 put 2 VALUE 5 9; resolve 1 VALUE = FOUND; resolve 2 VALUE = FOUND;"
            + "told 3 = 1; forget = 2");
        play(TWO_ZONES + "do 1 put 11 ALIAS 22 9; do 2 put 22 VALUE 5 9; resolve 11 VALUE = FOUND; told 3 = 4;"
            + "resolve 22 VALUE = FOUND")
            .go("told 3 = 0; forget = 2");
        due.sentence("in place of one before");
        play("do 0 put 1 VALUE 5 3; resolve 1 VALUE = FOUND; pass 3; do 0 put 1 VALUE 6 50; resolve 1 VALUE = FOUND;"
            + "told = 6 1 50 1")
            .go("pass 49; resolve 1 VALUE = FOUND; told = 6 1 1 0; forget = 1");
        play("do 0 put 1 VALUE 5 50; resolve 1 VALUE; pass 50; do 0 put 1 VALUE 6 3; resolve 1 VALUE; told = 6 1 3;"
            + "pass 3; forget = 0");
        play("do 0 put 1 VALUE 5 3; resolve 1 VALUE = FOUND; pass 3; do 0 drop 1 VALUE; resolve 1 VALUE = NO_NAME;"
            + "told = NONE 1 10")
            .go("resolve 1 VALUE = NO_NAME; told = NONE 1 10 0 0; pass 10; setDead 0 true; resolve 1 VALUE = NO_NAME;"
            + "told 4 = 1");
        due.sentence("To resolve a sort at a name: if an answer is kept, it counts");
        play("do 0 put 1 VALUE 5 9; resolve 1 VALUE; do 0 put 1 VALUE 6 9; resolve 1 VALUE = FOUND; told = 5 1 9 0 0;"
            + "do 0 drop 1 VALUE")
            .go("resolve 1 VALUE = FOUND; setDead 0 true; resolve 1 VALUE = FOUND; told = 5 1 9 0 0");
        due.sentence("ask, resolveAnew, trust, LOST and FAILED keep nothing");
        play("do 0 put 1 ALIAS 1 9; ask 0 2 VALUE; resolveAnew 2 VALUE; trust 2 VALUE; resolve 1 VALUE = FAILED;"
            + "forget = 0")
            .go("resolve 1 VALUE = FAILED; told = NONE NONE 0 1 0; setDead 0 true; resolve 5 VALUE = FAILED;"
            + "forget = 0");
        play("zone 1 5; do 0 put 1 CUT 1 9; ask 0 11 VALUE = REFERRED; resolveAnew 11 VALUE; trust 11 VALUE;"
            + "resolve 11 VALUE; told 3 = 2");
    }

    /** The zone 0 without records, and the NO_NAMEs of some names kept. */
    private Play kept(int from, int to) {
        return keep(play(""), from, to);
    }

    private Play keep(Play play, int from, int to) {
        for (int i = from; i < to; i++) {
            play.go("resolve " + name(i) + " VALUE = NO_NAME; told 3 = 1");
        }
        return play;
    }

    private void forty() {
        due.sentence("It keeps the 40 answers that were kept latest");
        kept(0, 40).go("resolve " + name(0) + " VALUE; told 3 = 0; resolve " + name(39) + " VALUE; told 3 = 0;"
            + "forget = 40");
        kept(0, 41).go("resolve " + name(1) + " VALUE; told 3 = 0; resolve " + name(40) + " VALUE; told 3 = 0; resolve "
            + name(0) + " VALUE; told 3 = 1; resolve " + name(1) + " VALUE; told 3 = 1; forget = 40");
        kept(0, 80).go("resolve " + name(40) + " VALUE; told 3 = 0; resolve " + name(39) + " VALUE; told 3 = 1;"
            + "forget = 40");
        kept(0, 39).go("forget = 39; forget = 0");
        due.sentence("kept latest: not asked for latest");
        kept(0, 40).go("resolve " + name(0) + " VALUE; told 3 = 0; resolve 5 VALUE; resolve " + name(0) + " VALUE;"
            + "told 3 = 1");
        due.sentence("kept latest: in place of one before, it is the latest, and takes one place");
        keep(kept(0, 40).go("pass 10; resolve " + name(0) + " VALUE; told 3 = 1"), 40, 79)
            .go("resolve " + name(0) + " VALUE; told 3 = 0; forget = 40");
        keep(kept(0, 40).go("pass 10; resolve " + name(0) + " VALUE; told 3 = 1"), 40, 80)
            .go("resolve " + name(0) + " VALUE; told 3 = 1; forget = 40");
        keep(kept(0, 39).go("pass 10; resolve " + name(0) + " VALUE"), 39, 40).go("setDead 0 true; resolve " + name(1)
            + " VALUE = NO_NAME; told 4 = 1");
        due.sentence("also those that do not hold any more");
        keep(kept(0, 1).go("pass 10"), 1, 40).go("setDead 0 true; resolve 11 VALUE = NO_NAME; told = NONE 11 0 1 1;"
            + "forget = 39");
        keep(kept(0, 1).go("pass 10"), 1, 41).go("setDead 0 true; resolve 11 VALUE = FAILED; forget = 40");
        play("zone 1 1; do 0 put 1 CUT 1 50; do 0 put 5 VALUE 5 50; resolve 5 VALUE = FOUND")
            .each("resolve ? VALUE", "121 122 123 124 125 126 127 128 129 131 132 133 134 135 136 137 138 139 141 142")
            .each("resolve ? VALUE", "143 144 145 146 147 148 149 151 152 153 154 155 156 157 158 159 161 162 163")
            .go("pass 1; resolve 5 VALUE; told 3 = 0; resolve 164 VALUE; resolve 5 VALUE = FOUND; told = 5 5 50 1;"
            + "forget = 2");
        due.sentence("the 40 answers: LED ones take a place as well, zones do not");
        Play led = play(TWO_ZONES);
        for (int i = 1; i <= 9; i++) {
            led.go("do 1 put 1" + i + " ALIAS 2" + i + " 50");
        }
        led.each("resolve ? VALUE = NO_NAME", "11 12 13 14 15 16 17 18 19")
            .go("forget = 18; resolve 11 VALUE; told 3 = 4")
            .each("resolve ? VALUE = NO_NAME", "12 13 14 15 16 17 18 19")
            .each("resolve ? VALUE", "211 212 213 214 215 216 217 218 219 221 222 223 224 225 226 227 228 229 231 232 "
            + "233 234")
            .go("resolve 11 VALUE; told 3 = 0; resolve 235 VALUE; resolve 21 VALUE; told 3 = 0; resolve 11 VALUE;"
            + "told 3 = 2; forget = 40");
    }

    private void zones() {
        due.sentence("Otherwise it asks the zone that is kept at the longest name that the name is under");
        Play.threeZones(due).go("resolve 121 VALUE; told 3 = 3; resolve 12 VALUE; told 3 = 1; resolve 129 CUT;"
            + "told 3 = 1")
            .go("resolve 1299 TRUST; told 3 = 1; resolve 13 VALUE; told 3 = 1; resolve 1 VALUE; told 3 = 1;"
            + "resolve 2 VALUE; told 3 = 1")
            .go("setDead 1 true; resolve 122 VALUE = NO_NAME; told 3 = 1; resolve 14 VALUE = FAILED; setDead 1 false;"
            + "setDead 0 true")
            .go("resolve 15 VALUE = NO_NAME; told 3 = 1; resolve 3 VALUE = FAILED; setDead 2 true;"
            + "resolve 123 VALUE = FAILED; told 3 = 1");
        Play.threeZones(due).go("resolve 121 VALUE; pass 15; resolve 122 VALUE; told 3 = 2; pass 5;"
            + "resolve 123 VALUE; told 3 = 1")
            .go("resolve 13 VALUE; told 3 = 2; pass 10; resolve 124 VALUE; told 3 = 2");
        due.sentence("for the sorts CUT and TRUST strictly under");
        Play.threeZones(due).go("resolve 121 VALUE; resolve 12 CUT = FOUND; told = 2 12 15 1;"
            + "resolve 12 TRUST = NO_DATA; told = NONE 12 5 1")
            .go("resolve 1 CUT = FOUND; told = 1 1 20 1; resolve 1 TRUST = NO_DATA; told = NONE 1 10 1;"
            + "resolve 12 ALIAS; told = NONE 12 7 1")
            .go("resolve 12 TREE; told = NONE 12 7 1; resolve 121 CUT; told = NONE 121 7 1; resolve 121 TRUST;"
            + "told = NONE 121 7 1");
        Play.threeZones(due).go("resolve 12 CUT = FOUND; told 3 = 2; resolve 121 CUT = NO_NAME; told 3 = 2;"
            + "resolve 122 CUT; told 3 = 1");
        due.sentence("the zone 0 is kept at the top always");
        play("resolve 5 VALUE = NO_NAME; forget = 1; pass 100; pass 100; resolve 0 VALUE = NO_NAME; told = NONE 0 10 1")
            .each("resolve 0 ? = NO_NAME; forget; resolve 9999 ? = NO_NAME; told 3 = 1", ALL_SORTS);
        due.sentence("REFERRED: the zone of the CUT is kept, and asked next");
        Play.threeZones(due).go("resolve 1299 VALUE = NO_NAME; told = NONE 1299 7 3; forget = 1; resolve 1299 VALUE;"
            + "told 3 = 3");
    }

    private void old() {
        due.sentence("A zone that does not answer, which is a question as well");
        play("setDead 0 true; resolve 1 VALUE = FAILED; told = NONE NONE 0 1 0; resolveAnew 1 VALUE = FAILED;"
            + "told 3 = 1");
        Play.threeZones(due).go("setDead 2 true; resolve 121 VALUE = FAILED; told = NONE NONE 0 3 0;"
            + "resolve 121 VALUE = FAILED; told 3 = 1");
        due.sentence("if now is less than 60 behind the time at which it was kept, as old; otherwise it FAILS");
        for (int start : new int[] {0, 1, 140}) {
            for (int life : new int[] {1, 10, 50}) {
                String rows = pass(start) + "do 0 put 1 VALUE 5 " + life + "; resolve 1 VALUE = FOUND; setDead 0 true;";
                play(rows + pass(life) + "resolve 1 VALUE = FOUND; told = 5 1 0 1 1");
                play(rows + pass(59) + "resolve 1 VALUE = FOUND; told = 5 1 0 1 1; pass 1; resolve 1 VALUE = FAILED;"
                    + "told = NONE NONE 0 1 0");
                play(rows + pass(60) + "resolve 1 VALUE = FAILED; told = NONE NONE 0 1 0");
                play(rows + pass(100) + "resolve 1 VALUE = FAILED; bringUp 0; resolve 1 VALUE = FOUND; told = 5 1 "
                    + life + " 1 0");
            }
        }
        due.sentence("what was kept for the name that is resolved then, and the sort, counts");
        play("do 0 put 1 VALUE 5 1; resolve 1 VALUE; pass 1; setDead 0 true")
            .each("resolve 1 ? = FAILED", "ALIAS TREE CUT TRUST")
            .each("resolve ? VALUE = FAILED", "0 11 2")
            .go("resolve 1 VALUE = FOUND; told 4 = 1; resolve 1 VALUE = FOUND; told 4 = 1");
        play("resolve 1 VALUE; do 0 put 2 VALUE 1 1; resolve 2 ALIAS; pass 10; setDead 0 true;"
            + "resolve 1 VALUE = NO_NAME")
            .go("told = NONE 1 0 1 1; resolve 2 ALIAS = NO_DATA; told = NONE 2 0 1 1");
        play(TWO_ZONES + "do 1 put 11 ALIAS 21 1; do 2 put 21 VALUE 5 9; resolve 11 VALUE; pass 1; setDead 1 true;"
            + "resolve 11 VALUE = FOUND")
            .go("told = 5 21 0 1 1; pass 8; setDead 2 true; resolve 11 VALUE = FOUND; told = 5 21 0 2 1; pass 50;"
            + "setDead 1 false")
            .go("resolve 11 VALUE = FOUND; told = 5 21 0 4 1; pass 1; resolve 11 VALUE = FAILED; told 3 = 2");
        due.sentence("counts, if ..: only where the zone does not answer");
        play("do 0 put 1 VALUE 5 1; resolve 1 VALUE; pass 1; put 1 ALIAS 1 9; drop 1 VALUE; update 0 = true")
            .go("resolve 1 VALUE = FAILED; told = NONE NONE 0 1 0; setDead 0 true; resolve 1 VALUE = FOUND;"
            + "told 4 = 1; bringUp 0")
            .go("resolve 1 VALUE = FAILED");
        due.sentence("as old: it is kept as before, at the time of then");
        play("do 0 put 1 VALUE 5 1; resolve 1 VALUE; setDead 0 true; pass 30; resolve 1 VALUE; pass 30;"
            + "resolve 1 VALUE = FAILED; forget = 0");
        due.sentence("told(4), whether a part is old: of the latest alone");
        play("do 0 put 1 VALUE 5 1; resolve 1 VALUE; told 4 = 0; setDead 0 true; pass 1; resolve 1 VALUE; told 4 = 1;"
            + "setDead 0 false")
            .go("resolve 1 VALUE; told = 5 1 1 1 0; pass 1; setDead 0 true; resolve 1 VALUE; told 4 = 1;"
            + "ask 0 1 VALUE; told = 5 1 1 1 0");
    }

    private void questions() {
        String twelve = TWO_ZONES + "do 1 put 11 ALIAS 22 50; do 2 put 22 ALIAS 13 50; do 1 put 13 ALIAS 24 50;"
            + "do 2 put 24 ALIAS 15 50;"
            + "do 1 put 15 ALIAS 26 50; do 2 put 26 VALUE 7 50; do 0 put 3 ALIAS 11 50;";
        due.sentence("It FAILS ahead of a 13th question");
        play(twelve + "resolveAnew 22 VALUE = FOUND; told = 7 26 50 10 0; resolveAnew 11 VALUE = FOUND;"
            + "told = 7 26 50 12 0")
            .go("resolveAnew 3 VALUE = FAILED; told = NONE NONE 0 12 0; trust 3 VALUE = NONE;"
            + "trust 11 VALUE = INSECURE");
        play(twelve + "do 0 put 26 VALUE 9 9; do 0 put 4 ALIAS 3 50; resolveAnew 4 VALUE = FAILED; told 3 = 12;"
            + "resolve 4 VALUE = FOUND")
            .go("told = 7 26 50 9 0; resolve 4 VALUE; told 3 = 0");
        due.sentence("a 13th question, of those to zones that do not answer as well, of what is kept not");
        play(twelve + "setDead 2 true; resolveAnew 11 VALUE = FAILED; told 3 = 4; setDead 2 false;"
            + "resolve 3 VALUE = FOUND; told 3 = 9")
            .go("resolve 3 VALUE = FOUND; told = 7 26 50 0 0");
        String lives = twelve.replace(" 50", " 1").replace("zone 1 1", "zone 1 50").replace("zone 2 1", "zone 2 50");
        play(lives + "resolve 3 VALUE = FOUND; told 3 = 9; pass 1; setDead 0 true; resolve 3 VALUE = FOUND;"
            + "told = 7 26 0 7 1")
            .go("bringUp 0; setDead 1 true; setDead 2 true; resolve 3 VALUE = FOUND; told = 7 26 0 9 1; pass 1")
            .go("resolve 3 VALUE = FOUND; told = 7 26 0 9 1; pass 57; resolve 3 VALUE = FOUND; told = 7 26 0 9 1;"
            + "pass 1")
            .go("resolve 3 VALUE = FAILED; told = NONE NONE 0 3 0; setDead 0 false");
        due.sentence("ahead of a 13th question: 12 to zones of which some, or all but one, do not answer");
        Play four = play("zone 1 1; zone 2 1; zone 3 1; zone 4 1; put 1 CUT 1 1; put 2 CUT 2 1; put 3 CUT 3 1;"
            + "put 4 CUT 4 1")
            .go("put 5 ALIAS 11 1; update 0 = true; do 1 put 11 ALIAS 21 1; do 2 put 21 ALIAS 31 1;"
            + "do 3 put 31 ALIAS 41 1")
            .go("do 4 put 41 ALIAS 12 1; do 1 put 12 ALIAS 22 1; do 2 put 22 ALIAS 32 1; do 3 put 32 ALIAS 42 1")
            .go("do 4 put 42 VALUE 9 1; resolve 11 VALUE = FOUND; told = 9 42 1 12 0; pass 1; resolve 5 VALUE = FAILED")
            .go("told 3 = 12; resolve 5 VALUE = FOUND; told = 9 42 1 1 0; pass 1; setDead 1 true; setDead 2 true")
            .go("setDead 3 true; setDead 4 true; resolve 5 VALUE = FAILED; told 3 = 12; resolve 5 VALUE = FOUND;"
            + "told = 9 42 0 8 1");
        four.go("pass 1; resolve 11 VALUE = FOUND; told = 9 42 0 12 1; setDead 4 false; pass 1;"
            + "resolve 11 VALUE = FOUND")
            .go("told = 9 42 0 12 1; pass 1; resolve 5 VALUE = FAILED; told = NONE NONE 0 12");
    }

    /** The names 11, 22, 13, 24 and so on, in turns of two zones, each an ALIAS of the next one. */
    private String chain(int times) {
        StringBuilder rows = new StringBuilder(TWO_ZONES);
        for (int i = 1; i <= times; i++) {
            rows.append("do ").append(i % 2 == 1 ? 1
                : 2).append(" put ").append(link(i)).append(" ALIAS ").append(link(i + 1))
                .append(" 50;");
        }
        return rows + "do " + (times % 2 == 0 ? 1 : 2) + " put " + link(times + 1) + " VALUE 7 50;";
    }

    private static String link(int i) {
        return (i % 2 == 1 ? "1" : "2") + (i <= 9 ? "" + i : "1" + (i - 9));
    }

    private void led() {
        due.sentence("LED: that name is resolved in place of the name");
        play(TWO_ZONES + "do 1 put 11 ALIAS 2 9; do 2 put 2 VALUE 5 8; resolve 11 VALUE = FOUND; told = 5 2 8 4 0;"
            + "resolve 11 CUT = FOUND")
            .go("told = 2 2 9 2 0; resolve 11 TRUST = NO_DATA; told = NONE 2 9 2 0; resolve 11 ALIAS = FOUND;"
            + "told = 2 11 9 1 0");
        due.sentence("and when it is LED for the 9th time, by what is .. told");
        play(chain(8) + "resolve 11 VALUE = FOUND; told = 7 " + link(9) + " 50 11 0; forget = 9");
        play(chain(9) + "resolve 11 VALUE = FAILED; told = NONE NONE 0 11 0; resolve 22 VALUE = FOUND;"
            + "told = 7 211 50 1 0");
        due.sentence("by what is kept");
        play(chain(8) + "resolve 11 VALUE = FOUND; resolve 11 VALUE = FOUND; told = 7 " + link(9) + " 50 0 0");
        play(chain(9) + "resolve 22 VALUE = FOUND; resolve 11 VALUE = FAILED; told = NONE NONE 0 1 0;"
            + "resolve 11 VALUE = FAILED")
            .go("told = NONE NONE 0 0 0; resolve 22 VALUE = FOUND; told 3 = 0; forget = 10");
        due.sentence("LED for the 9th time: what is old counts as well");
        play(chain(9) + "resolve 11 VALUE = FAILED; resolve 22 VALUE; pass 50; setDead 0 true;"
            + "resolve 11 VALUE = FAILED; told 3 = 9")
            .go("told = NONE NONE 0 9 1; resolve 22 VALUE = FOUND; told = 7 211 0 9 1");
        due.sentence("the 9th LED is kept as well, as it was told");
        play(chain(9) + "resolve 11 VALUE = FAILED; forget = 9");
        play(TWO_ZONES + "do 1 put 11 ALIAS 21 9; do 2 put 21 ALIAS 11 9; resolve 11 VALUE = FAILED; told 3 = 4;"
            + "forget = 2");
        due.sentence("LOST is FAILED as well");
        play("do 0 put 1 TREE 22 9; resolve 1234 VALUE = FAILED; told = NONE NONE 0 1 0;"
            + "resolveAnew 1234 VALUE = FAILED; told 3 = 1")
            .go("trust 1234 VALUE = NONE; do 0 put 5 ALIAS 5 9; resolve 5 VALUE = FAILED; resolve 5 ALIAS = FOUND;"
            + "forget = 1");
    }

    public static void main(String[] args) {
        EdgesOfResolvingTest test = new EdgesOfResolvingTest();
        test.holding();
        test.leastLives();
        test.answers();
        test.forty();
        test.zones();
        test.old();
        test.questions();
        test.led();
        test.due.end();
    }
}
