/** The sentences of the section Terms about keys, windows, the anchor and trust. */
public final class EdgesOfTrustTest {
    /** The zones 0, 1 at 1 and 2 at 12 with the keys 10, 11 and 12, TRUSTs for these, and windows from 5 to 9. */
    private static final String TRUSTED = "zone 1 5; zone 12 7; put 1 CUT 1 20; put 1 TRUST 348 1; update 0 = true;"
        + "put 12 CUT 2 15; put 12 TRUST 379 1; update 1 = true; setKey 0 0 10; setKey 1 1 11; setKey 2 0 12;"
        + "setWindow 0 5 9; setWindow 1 5 9; setWindow 2 5 9; setAnchor 10; pass 5;";

    private final Due due = new Due();

    private Play play(String rows) {
        return new Play(due, rows);
    }

    private void keys() {
        due.sentence("A zone has up to two keys, 0 to 99");
        play("").each("setKey 0 0 ? = Argument; setKey 0 1 ? = Argument", "-2 100 MIN MAX")
            .go("setKey 0 0 0 = NONE; setKey 0 1 99 = NONE; setKey 0 0 99 = 0; setKey 0 1 NONE = 99;"
            + "setKey 0 0 NONE = 99")
            .go("setKey 0 0 5 = NONE; setKey 0 1 5 = NONE; setKey 0 2 5 = Argument; setKey 0 -1 5 = Argument");
        due.sentence("the resolver has an anchor, a key, or none, at first");
        play("setAnchor NONE = NONE; trust 1 VALUE = INSECURE; setAnchor 0 = NONE; setAnchor 99 = 0;"
            + "setAnchor NONE = 99")
            .each("setAnchor ? = Argument", "-2 100 MIN MAX").go("setAnchor 1 = NONE");
        due.sentence("if one of its keys .. is that");
        play("setAnchor 0; trust 1 VALUE = BOGUS; setKey 0 0 0; trust 1 VALUE = SECURE; setKey 0 1 5;"
            + "trust 1 VALUE = SECURE")
            .go("setKey 0 0 6; trust 1 VALUE = BOGUS; setKey 0 1 0; trust 1 VALUE = SECURE; setKey 0 0 NONE;"
            + "trust 1 VALUE = SECURE")
            .go("setKey 0 1 NONE; trust 1 VALUE = BOGUS; setAnchor 99; setKey 0 1 99; trust 1 VALUE = SECURE;"
            + "zone 1 5; setKey 1 0 98")
            .go("setAnchor 98; trust 1 VALUE = BOGUS");
        due.sentence("one of its keys, times 31, and 7, together, modulo 997, is that");
        for (int key = 0; key <= 99; key++) {
            int number = (31 * key + 7) % 997;
            Play play = play("setAnchor 1; setKey 0 0 1; zone 1 5; setKey 1 " + key % 2 + " " + key + ";"
                + "do 0 put 1 CUT 1 1")
                .go("do 0 put 1 TRUST " + number + " 1; trust 1 VALUE = SECURE; do 0 put 1 TRUST " + (number
                + 1) % 997 + " 1")
                .go("trust 1 VALUE = BOGUS; do 0 put 1 TRUST " + (number + 996) % 997 + " 1; trust 1 VALUE = BOGUS")
                .go("do 0 put 1 TRUST " + key + " 1; trust 1 VALUE = " + (key == number ? "SECURE" : "BOGUS"));
            play.go("setAnchor " + key + "; trust 2 VALUE = " + (key == 1 ? "SECURE" : "BOGUS") + "; setKey 0 0 " + key)
                .go("trust 2 VALUE = SECURE");
        }
        due.sentence("none is no key: -1 times 31, and 7, is no number of a TRUST");
        play("setAnchor 1; setKey 0 0 1; zone 1 5; put 1 CUT 1 1; put 1 TRUST 973 1; update 0; trust 1 VALUE = BOGUS");
    }

    private void windows() {
        due.sentence("and a window, from one time to another one, both included .. and now is in its window");
        play("setAnchor 1; setKey 0 0 1; setWindow 0 3 5; trust 1 VALUE = BOGUS; pass 2; trust 1 VALUE = BOGUS; pass 1")
            .go("trust 1 VALUE = SECURE; pass 1; trust 1 VALUE = SECURE; pass 1; trust 1 VALUE = SECURE; pass 1;"
            + "trust 1 VALUE = BOGUS")
            .go("setWindow 0 6 6; trust 1 VALUE = SECURE; setWindow 0 7 7; trust 1 VALUE = BOGUS; setWindow 0 0 5;"
            + "trust 1 VALUE = BOGUS")
            .go("setWindow 0 0 6; trust 1 VALUE = SECURE; setWindow 0 6 10000; trust 1 VALUE = SECURE");
        due.sentence("the window of a zone, from 0 to 0 at first");
        play("setAnchor 1; setKey 0 0 1; trust 1 VALUE = SECURE; pass 1; trust 1 VALUE = BOGUS");
        play("zone 1 5; setAnchor 1; setKey 0 0 1; setKey 1 0 1; setWindow 0 0 9; put 1 CUT 1 9; put 1 TRUST 38 9;"
            + "update 0")
            .go("trust 1 VALUE = SECURE; pass 1; trust 1 VALUE = BOGUS; setWindow 1 1 1; trust 1 VALUE = SECURE");
        due.sentence("to 10000");
        Play far = play("setAnchor 1; setKey 0 0 1; setWindow 0 10000 10000");
        for (int i = 1; i <= 99; i++) {
            far.go("pass 100");
        }
        far.go("pass 99 = 9999; trust 1 VALUE = BOGUS; pass 1 = 10000; trust 1 VALUE = SECURE; pass 1;"
            + "trust 1 VALUE = BOGUS")
            .go("setWindow 0 0 10000; trust 1 VALUE = BOGUS; setWindow 0 10001 10001 = Argument");
    }

    private void down() {
        due.sentence("SECURE, if there is an anchor, the zone 0 is good for the number of the anchor");
        play(TRUSTED + "trust 2 VALUE = SECURE; setAnchor 9; trust 2 VALUE = BOGUS; setAnchor 10; setWindow 0 6 9;"
            + "trust 2 VALUE = BOGUS")
            .go("setWindow 0 5 5; trust 2 VALUE = SECURE; setKey 0 0 NONE; trust 2 VALUE = BOGUS; setKey 0 1 10;"
            + "trust 2 VALUE = SECURE");
        due.sentence("and each zone that was asked, when one was REFERRED to it, "
            + "is good for the number of the TRUST there");
        play(TRUSTED + "trust 11 VALUE = SECURE; trust 121 VALUE = SECURE; trust 12 CUT = SECURE;"
            + "trust 1 TRUST = SECURE; pass 4")
            .go("trust 121 VALUE = SECURE; setWindow 2 5 8; trust 121 VALUE = BOGUS; trust 12 CUT = SECURE;"
            + "trust 12 TRUST = SECURE")
            .go("trust 12 VALUE = BOGUS; setWindow 2 9 9; trust 121 VALUE = SECURE; do 1 put 12 TRUST 348 1;"
            + "trust 121 VALUE = BOGUS");
        due.sentence("A zone that is REFERRED to from where no TRUST is, or under such a one, is INSECURE");
        play(TRUSTED + "do 1 drop 12 TRUST; trust 121 VALUE = INSECURE; trust 11 VALUE = SECURE; do 0 drop 1 TRUST;"
            + "trust 11 VALUE = INSECURE")
            .go("trust 121 VALUE = INSECURE; do 1 put 12 TRUST 379 1; trust 121 VALUE = INSECURE;"
            + "trust 2 VALUE = SECURE");
        due.sentence("one that is not good for its number is BOGUS, and all under it");
        play(TRUSTED + "setKey 1 1 50; trust 11 VALUE = BOGUS; trust 121 VALUE = BOGUS; trust 2 VALUE = SECURE;"
            + "trust 1 CUT = SECURE")
            .go("setKey 1 1 11; trust 121 VALUE = SECURE; setAnchor 50; trust 121 VALUE = BOGUS;"
            + "trust 11 VALUE = BOGUS");
        due.sentence("of both what comes first, from the top, stays");
        play(TRUSTED + "do 0 drop 1 TRUST; setKey 2 0 50; trust 121 VALUE = INSECURE; setKey 1 1 50;"
            + "trust 121 VALUE = INSECURE");
        play(TRUSTED + "setKey 1 1 50; do 1 drop 12 TRUST; trust 121 VALUE = BOGUS; setKey 1 1 11;"
            + "trust 121 VALUE = INSECURE");
        play(TRUSTED + "setKey 0 0 50; do 0 drop 1 TRUST; trust 11 VALUE = BOGUS; trust 121 VALUE = BOGUS");
        due.sentence("Without an anchor all are INSECURE");
        play(TRUSTED + "setAnchor NONE; trust 2 VALUE = INSECURE; trust 11 VALUE = INSECURE;"
            + "trust 121 VALUE = INSECURE; setKey 1 1 50")
            .go("trust 11 VALUE = INSECURE; setKey 0 0 NONE; trust 2 VALUE = INSECURE; trust 121 VALUE = INSECURE");
    }

    private void parts() {
        due.sentence("Of several zones that gave a part of the answer (by FOUND, NO_DATA, NO_NAME, LED), "
            + "BOGUS counts most, then INSECURE");
        // The zone 1 is SECURE, 2 INSECURE, 3 BOGUS; the names 1x, 2x, 3x of them are ALIASes, or not.
        String three = "zone 1 5; zone 2 5; zone 3 5; put 1 CUT 1 9; put 1 TRUST 38 9; put 2 CUT 2 9; put 3 CUT 3 9;"
            + "put 3 TRUST 7 9; update 0 = true; setAnchor 1; setKey 0 0 1; setKey 1 0 1; setKey 3 0 1;";
        String[] trusts = {"SECURE", "INSECURE", "BOGUS"};
        for (int first = 1; first <= 3; first++) {
            for (int second = 1; second <= 3; second++) {
                for (int third = 1; third <= 3; third++) {
                    String worst = trusts[Math.max(first, Math.max(second, third)) - 1];
                    String names = "do " + first + " put " + first + "1 ALIAS " + second + "2 9; do " + second
                        + " put " + second
                        + "2 ALIAS " + third + "3 9;";
                    play(three + names + "trust " + first + "1 VALUE = " + worst + "; do " + third + " put " + third
                        + "3 VALUE 1 1")
                        .go("trust " + first + "1 VALUE = " + worst + "; trust " + first + "1 TREE = " + worst)
                        .go("trust " + first + "1 ALIAS = " + trusts[first - 1] + "; trust 4 VALUE = SECURE");
                }
            }
        }
        due.sentence("a part by REFERRED counts not");
        play(TRUSTED + "setWindow 0 6 9; trust 12 VALUE = BOGUS; setWindow 0 5 5; do 0 put 3 ALIAS 121 1;"
            + "trust 3 VALUE = SECURE")
            .go("setKey 2 0 50; trust 3 VALUE = BOGUS; trust 3 ALIAS = SECURE");
    }

    private void without() {
        due.sentence("The trust of resolving, without anything that is kept");
        play(TRUSTED + "resolve 121 VALUE = NO_NAME; setKey 2 0 50; trust 121 VALUE = BOGUS; setDead 2 true;"
            + "trust 121 VALUE = NONE")
            .go("resolve 121 VALUE = NO_NAME; told 3 = 0; forget = 1; trust 11 VALUE = SECURE; forget = 0;"
            + "resolve 11 VALUE; told 3 = 2");
        due.sentence("Returns SECURE to BOGUS; NONE if it FAILS");
        play("setDead 0 true; trust 1 VALUE = NONE; bringUp 0; trust 1 VALUE = INSECURE; setDead 0 false;"
            + "do 0 put 1 ALIAS 1 1")
            .go("trust 1 VALUE = NONE; trust 1 ALIAS = INSECURE; do 0 put 2 TREE 1234 1; trust 21 VALUE = NONE;"
            + "setAnchor 1; trust 21 VALUE = NONE");
        due.sentence("a dead zone is asked by its copy: the TRUSTs of it, but the keys of the zone");
        play(TRUSTED + "bringUp 0; setDead 0 true; trust 11 VALUE = SECURE; do 0 put 1 TRUST 5 5;"
            + "trust 11 VALUE = SECURE; setKey 1 1 50")
            .go("trust 11 VALUE = BOGUS; setKey 1 1 11; setDead 0 false; trust 11 VALUE = BOGUS");
    }

    public static void main(String[] args) {
        EdgesOfTrustTest test = new EdgesOfTrustTest();
        test.keys();
        test.windows();
        test.down();
        test.parts();
        test.without();
        test.due.end();
    }
}
