/** A tree of names in zones, a resolver over it, and trust from an anchor down: see README.md. */
public final class ZoneTree {
    public static final int NONE = -1;
    public static final int VALUE = 0, ALIAS = 1, TREE = 2, CUT = 3, TRUST = 4;
    public static final int FOUND = 0, NO_DATA = 1, NO_NAME = 2, REFERRED = 3, LED = 4, LOST = 5, FAILED = 6;
    public static final int SECURE = 0, INSECURE = 1, BOGUS = 2;

    private static final int MOST_FIGURES = 4;
    private static final int MOST_ZONES = 6;
    private static final int MOST_RECORDS = 20;
    private static final int MOST_TOLD = 10;
    private static final int MOST_ANSWERS = 40;
    private static final int MOST_QUESTIONS = 12;
    private static final int LONGEST_LIFE = 50;
    private static final int FIRST_LIFE = 10;
    private static final int SERIALS = 16;
    private static final int MOST_DIFFERENCES = 4;
    private static final int ONE_NAME_TOO_MANY = 9;
    private static final int OLDEST = 60;
    private static final int KEYS = 100;
    private static final int KEY_NUMBERS = 997;
    private static final int MOST_VALUE = 99;
    private static final int MOST_TIME = 100;
    private static final int LAST_OF_WINDOW = 10000;
    // Far above the 12 questions and 9 kept answers that a resolving can take.
    private static final int MOST_STEPS = 1000;

    private final Zones zones;
    private final Changes changes;
    private final Resolver resolver;
    private final Answer latest;
    private final Answer unseen;

    public ZoneTree() {
        zones = new Zones();
        changes = new Changes();
        resolver = new Resolver(zones);
        latest = new Answer();
        unseen = new Answer();
    }

    // ---- zones and updates

    public int zone(int apex, int life) throws IllegalArgumentException, IllegalStateException {
        if (apex == 0 || !Names.isName(apex) || !isLife(life)) {
            throw new IllegalArgumentException("the apex or the life is out of range");
        }
        if (zones.count >= MOST_ZONES || zones.isOneAt(apex)) {
            throw new IllegalStateException("there are 6 zones, or one is at that name");
        }
        return zones.make(apex, life);
    }

    public int need(int name, int sort, boolean isThere) throws IllegalArgumentException, IllegalStateException {
        checkPlaceAndSort(name, sort);
        checkRoomToTell();
        return changes.tell(isThere ? Changes.NEED : Changes.NEED_NOT, name, sort, 0, 0);
    }

    public int put(int name, int sort, int number, int life) throws IllegalArgumentException, IllegalStateException {
        checkPlaceAndSort(name, sort);
        if (!isNumberOf(sort, number) || !isLife(life)) {
            throw new IllegalArgumentException("the number or the life is out of range");
        }
        checkRoomToTell();
        return changes.tell(Changes.PUT, name, sort, number, life);
    }

    public int drop(int name, int sort) throws IllegalArgumentException, IllegalStateException {
        checkPlaceAndSort(name, sort);
        checkRoomToTell();
        return changes.tell(Changes.DROP, name, sort, 0, 0);
    }

    public boolean update(int zone) throws IndexOutOfBoundsException {
        checkZone(zone);
        return changes.doTo(zones.at(zone), zones);
    }

    public int zoneHas(int zone, int what) throws IndexOutOfBoundsException, IllegalArgumentException {
        checkZone(zone);
        if (what < 0 || what > 4) {
            throw new IllegalArgumentException("what is asked of a zone is out of range");
        }
        return zones.at(zone).detail(what);
    }

    public int record(int zone, int name, int sort) throws IndexOutOfBoundsException, IllegalArgumentException {
        checkZone(zone);
        checkPlaceAndSort(name, sort);
        Records records = zones.at(zone).records;
        return records.numberAt(records.rowOf(name, sort));
    }

    // ---- copies

    public int bringUp(int zone) throws IndexOutOfBoundsException {
        checkZone(zone);
        return zones.at(zone).renewCopy();
    }

    public void setDead(int zone, boolean isDead) throws IndexOutOfBoundsException {
        checkZone(zone);
        zones.at(zone).isDead = isDead;
    }

    // ---- answers of zones

    public int ask(int zone, int name, int sort)
            throws IndexOutOfBoundsException, IllegalArgumentException, IllegalStateException {
        checkZone(zone);
        checkNameAndSort(name, sort);
        Zone asked = zones.at(zone);
        if (!Names.isUnder(name, asked.apex)) {
            throw new IllegalStateException("the name is not under the apex of the zone");
        }
        asked.answer(asked.records, name, sort, latest);
        latest.questions = 1;
        latest.isOld = false;
        return latest.kind;
    }

    public int told(int what) throws IllegalArgumentException {
        if (what < 0 || what > 4) {
            throw new IllegalArgumentException("what is asked of an answer is out of range");
        }
        return latest.detail(what);
    }

    public int neighbour(int zone, int name, boolean isBehind)
            throws IndexOutOfBoundsException, IllegalArgumentException {
        checkZone(zone);
        if (!Names.isPlace(name)) {
            throw new IllegalArgumentException("neither a name nor a star");
        }
        return zones.at(zone).nearest(name, isBehind);
    }

    // ---- the resolver

    public int resolve(int name, int sort) throws IllegalArgumentException {
        checkNameAndSort(name, sort);
        resolver.run(name, sort, false, latest);
        return latest.kind;
    }

    public int resolveAnew(int name, int sort) throws IllegalArgumentException {
        checkNameAndSort(name, sort);
        resolver.run(name, sort, true, latest);
        return latest.kind;
    }

    public int forget() {
        return resolver.kept.clear(resolver.now);
    }

    public int pass(int time) throws IllegalArgumentException {
        if (time < 1 || time > MOST_TIME) {
            throw new IllegalArgumentException("the time is out of range");
        }
        resolver.now += time;
        return resolver.now;
    }

    // ---- trust

    public int setKey(int zone, int slot, int key) throws IndexOutOfBoundsException, IllegalArgumentException {
        checkZone(zone);
        if (slot < 0 || slot > 1 || !isKeyOrNone(key)) {
            throw new IllegalArgumentException("the slot or the key is out of range");
        }
        return zones.at(zone).changeKey(slot, key);
    }

    public void setWindow(int zone, int from, int to) throws IndexOutOfBoundsException, IllegalArgumentException {
        checkZone(zone);
        if (from < 0 || to < from || to > LAST_OF_WINDOW) {
            throw new IllegalArgumentException("the window is out of range");
        }
        Zone changed = zones.at(zone);
        changed.windowFrom = from;
        changed.windowTo = to;
    }

    public int setAnchor(int key) throws IllegalArgumentException {
        if (!isKeyOrNone(key)) {
            throw new IllegalArgumentException("the key is out of range");
        }
        int before = resolver.anchor;
        resolver.anchor = key;
        return before;
    }

    public int trust(int name, int sort) throws IllegalArgumentException {
        checkNameAndSort(name, sort);
        // told() tells of resolve() and resolveAnew(), but not of this call.
        resolver.run(name, sort, true, unseen);
        return unseen.kind == FAILED ? NONE : resolver.worstTrust;
    }

    private void checkZone(int zone) {
        if (zone < 0 || zone >= zones.count) {
            throw new IndexOutOfBoundsException("there is no such zone");
        }
    }

    private void checkRoomToTell() {
        if (changes.count >= MOST_TOLD) {
            throw new IllegalStateException("10 conditions and changes are told");
        }
    }

    private static void checkPlaceAndSort(int name, int sort) {
        if (!Names.isPlace(name) || !isSort(sort)) {
            throw new IllegalArgumentException("the name or the sort is out of range");
        }
    }

    private static void checkNameAndSort(int name, int sort) {
        if (!Names.isName(name) || !isSort(sort)) {
            throw new IllegalArgumentException("the name or the sort is out of range");
        }
    }

    private static boolean isSort(int sort) {
        return sort >= VALUE && sort <= TRUST;
    }

    private static boolean isLife(int life) {
        return life >= 1 && life <= LONGEST_LIFE;
    }

    private static boolean isKeyOrNone(int key) {
        return key == NONE || key >= 0 && key < KEYS;
    }

    private static boolean isNumberOf(int sort, int number) {
        if (sort == ALIAS || sort == TREE) {
            return Names.isName(number);
        }
        int most = sort == VALUE ? MOST_VALUE : sort == CUT ? MOST_ZONES - 1 : KEY_NUMBERS - 1;
        return number >= 0 && number <= most;
    }

    /** Names and stars as numbers; a place is either of both. */
    private static final class Names {
        private static final int[] POWERS = {1, 10, 100, 1000, 10000};

        static boolean isName(int number) {
            if (number < 0 || number > 9999) {
                return false;
            }
            int rest = number;
            for (int i = 0; i < MOST_FIGURES && rest > 0; i++) {
                if (rest % 10 == 0) {
                    return false;
                }
                rest /= 10;
            }
            return true;
        }

        static boolean isStar(int number) {
            return number >= 10 && number % 10 == 0 && isName(number / 10) && number <= 9990;
        }

        static boolean isPlace(int number) {
            return isName(number) || isStar(number);
        }

        /** The name that a star is of, or the name itself. */
        static int nameOf(int place) {
            return place % 10 == 0 ? place / 10 : place;
        }

        static boolean isUnder(int name, int above) {
            int rest = name;
            // A name is a smaller number than all that go on from it.
            for (int i = 0; i < MOST_FIGURES && rest > above; i++) {
                rest /= 10;
            }
            return rest == above;
        }

        static int figures(int place) {
            int count = 0;
            for (int i = 0; i < MOST_FIGURES && place >= power(i); i++) {
                count++;
            }
            return count;
        }

        static int power(int figures) {
            return figures >= 0 && figures < POWERS.length ? POWERS[figures] : 1;
        }

        /** The name behind the number of a TREE, NONE if it has too many figures. */
        static int moved(int name, int from, int to) {
            int behind = figures(name) - figures(from);
            if (behind + figures(to) > MOST_FIGURES) {
                return NONE;
            }
            int shift = power(behind);
            return shift < 1 ? NONE : to * shift + name % shift;
        }

        /** A number that is greater for what is behind: each figure counts 1 more, so that none comes first. */
        static int order(int place) {
            int count = figures(place);
            int key = 0;
            for (int i = 1; i <= MOST_FIGURES; i++) {
                int unit = power(count - i);
                key = key * 11 + (i <= count && unit > 0 ? place / unit % 10 + 1 : 0);
            }
            return key;
        }
    }

    /** Rows of records, at most one of a sort at a place; a row that is not there has the number NONE. */
    private static final class Records {
        private final int[] places;
        private final int[] sorts;
        private final int[] numbers;
        private final int[] lives;
        private int count;

        Records(int room) {
            int rows = room < 0 ? 0 : room;
            places = new int[rows];
            sorts = new int[rows];
            numbers = new int[rows];
            lives = new int[rows];
        }

        int placeAt(int row) {
            return row >= 0 && row < count && row < places.length ? places[row] : NONE;
        }

        int sortAt(int row) {
            return row >= 0 && row < count && row < sorts.length ? sorts[row] : NONE;
        }

        int numberAt(int row) {
            return row >= 0 && row < count && row < numbers.length ? numbers[row] : NONE;
        }

        int lifeAt(int row) {
            return row >= 0 && row < count && row < lives.length ? lives[row] : 0;
        }

        int rowOf(int place, int sort) {
            for (int i = 0; i < count && i < places.length; i++) {
                if (places[i] == place && sorts[i] == sort) {
                    return i;
                }
            }
            return NONE;
        }

        int countAt(int place) {
            int there = 0;
            for (int i = 0; i < count && i < places.length; i++) {
                if (places[i] == place) {
                    there++;
                }
            }
            return there;
        }

        /** Whether a name under the apex is there, by the first rows alone. */
        boolean isThereBy(int rows, int name) {
            for (int i = 0; i < rows && i < places.length; i++) {
                if (Names.isUnder(Names.nameOf(places[i]), name)) {
                    return true;
                }
            }
            return false;
        }

        boolean isAnyElseUnder(int name) {
            for (int i = 0; i < count && i < places.length; i++) {
                if (places[i] != name && Names.isUnder(Names.nameOf(places[i]), name)) {
                    return true;
                }
            }
            return false;
        }

        /** The row of the CUT nearest to the top among those that the name is under. */
        int cutOver(int name) {
            int best = NONE;
            int bestPlace = NONE;
            for (int i = 0; i < count && i < places.length; i++) {
                boolean isOver = sorts[i] == CUT && Names.isUnder(name, places[i]);
                if (isOver && (best == NONE || places[i] < bestPlace)) {
                    best = i;
                    bestPlace = places[i];
                }
            }
            return best;
        }

        int treeOver(int name) {
            for (int i = 0; i < count && i < places.length; i++) {
                if (sorts[i] == TREE && places[i] != name && Names.isUnder(name, places[i])) {
                    return i;
                }
            }
            return NONE;
        }

        boolean isOwn(int place) {
            int cut = cutOver(Names.nameOf(place));
            return cut == NONE || placeAt(cut) == place;
        }

        void set(int place, int sort, int number, int life) {
            int row = rowOf(place, sort);
            if (row == NONE && count < places.length) {
                row = count;
                count++;
            }
            if (row >= 0 && row < places.length) {
                places[row] = place;
                sorts[row] = sort;
                numbers[row] = number;
                lives[row] = life;
            }
        }

        boolean remove(int place, int sort) {
            int row = rowOf(place, sort);
            if (row < 0 || row >= places.length) {
                return false;
            }
            int last = count - 1;
            places[row] = placeAt(last);
            sorts[row] = sortAt(last);
            numbers[row] = numberAt(last);
            lives[row] = lifeAt(last);
            count = last;
            return true;
        }

        void become(Records other) {
            count = Math.min(other.count, places.length);
            for (int i = 0; i < count; i++) {
                places[i] = other.placeAt(i);
                sorts[i] = other.sortAt(i);
                numbers[i] = other.numberAt(i);
                lives[i] = other.lifeAt(i);
            }
        }

        /** How many records the other ones do not have as they are here. */
        int countNotIn(Records other) {
            int missing = 0;
            for (int i = 0; i < count; i++) {
                int row = other.rowOf(placeAt(i), sortAt(i));
                if (row == NONE || other.numberAt(row) != numberAt(i) || other.lifeAt(row) != lifeAt(i)) {
                    missing++;
                }
            }
            return missing;
        }
    }

    private static final class Zone {
        private int apex;
        private int life;
        private int serial;
        private int copySerial = NONE;
        private boolean isDead;
        private int firstKey = NONE;
        private int secondKey = NONE;
        private int windowFrom;
        private int windowTo;
        private final Records records = new Records(MOST_RECORDS);
        private final Records copy = new Records(MOST_RECORDS);

        int detail(int what) {
            switch (what) {
                case 0: return apex;
                case 1: return serial;
                case 2: return records.count;
                case 3: return copySerial;
                default: return countOwnNames();
            }
        }

        private int countOwnNames() {
            int names = 0;
            for (int row = 0; row < records.count; row++) {
                int name = Names.nameOf(records.placeAt(row));
                int above = Names.figures(name) - Names.figures(apex);
                for (int i = 0; i <= above; i++) {
                    // A row ahead that is under the name has counted it.
                    if (records.isOwn(name) && !records.isThereBy(row, name)) {
                        names++;
                    }
                    name /= 10;
                }
            }
            return names;
        }

        int nearest(int place, boolean isBehind) {
            int best = NONE;
            for (int row = 0; row < records.count; row++) {
                int at = records.placeAt(row);
                best = nearer(best, at, place, isBehind);
                int name = Names.nameOf(at);
                int above = Names.figures(name) - Names.figures(apex);
                for (int i = 0; i <= above; i++) {
                    best = nearer(best, name, place, isBehind);
                    name /= 10;
                }
            }
            return best;
        }

        private int nearer(int best, int other, int place, boolean isBehind) {
            int order = Names.order(other);
            if (isBehind != order > Names.order(place) || !records.isOwn(other)) {
                return best;
            }
            if (best == NONE) {
                return other;
            }
            return isBehind == order < Names.order(best) ? other : best;
        }

        /** How many records are sent. */
        int renewCopy() {
            if (copySerial == serial) {
                return 0;
            }
            int ahead = serial - copySerial + (serial < copySerial ? SERIALS : 0);
            int sent = records.count;
            if (copySerial != NONE && ahead <= MOST_DIFFERENCES) {
                sent = records.countNotIn(copy) + copy.countNotIn(records);
            }
            copy.become(records);
            copySerial = serial;
            return sent;
        }

        void take(Records changed) {
            records.become(changed);
            serial = serial + 1 < SERIALS ? serial + 1 : 0;
        }

        boolean isFit(Records changed, Zones zones) {
            boolean isFit = changed.count <= MOST_RECORDS;
            for (int row = 0; row < changed.count && isFit; row++) {
                isFit = isRowFit(changed, row, zones);
            }
            return isFit;
        }

        private boolean isRowFit(Records changed, int row, Zones zones) {
            int place = changed.placeAt(row);
            int sort = changed.sortAt(row);
            if (!Names.isUnder(Names.nameOf(place), apex)) {
                return false;
            }
            switch (sort) {
                case ALIAS:
                    return changed.countAt(place) == 1;
                case TREE:
                    return !Names.isStar(place) && !changed.isAnyElseUnder(place);
                case CUT:
                    // The zone at the name of a CUT is never at a star.
                    return place != apex && zones.isAt(changed.numberAt(row), place);
                case TRUST:
                    return changed.rowOf(place, CUT) != NONE;
                default:
                    return true;
            }
        }

        boolean isAnswering() {
            return !isDead || copySerial != NONE;
        }

        Records answering() {
            return isDead ? copy : records;
        }

        /** The answer of the zone by some records of it, as questions and age do not matter. */
        void answer(Records held, int name, int sort, Answer answer) {
            int at = name;
            int least = LONGEST_LIFE;
            for (int turn = 1; turn <= ONE_NAME_TOO_MANY; turn++) {
                if (isCutOff(held, at, sort)) {
                    answerCutOff(held, at, least, turn > 1, answer);
                    return;
                }
                int row = held.treeOver(at);
                int next = row == NONE ? NONE : Names.moved(at, held.placeAt(row), held.numberAt(row));
                if (row == NONE) {
                    int place = placeFor(held, at);
                    row = held.rowOf(place, ALIAS);
                    // Beside an ALIAS no record of another sort can be FOUND.
                    if (row == NONE || sort == ALIAS) {
                        answerAt(held, place, at, sort, least, answer);
                        return;
                    }
                    next = held.numberAt(row);
                }
                least = Math.min(least, held.lifeAt(row));
                if (next == NONE || turn == ONE_NAME_TOO_MANY) {
                    break;
                }
                at = next;
                if (!Names.isUnder(at, apex)) {
                    answer.tell(LED, NONE, at, least);
                    return;
                }
            }
            answer.tell(LOST, NONE, NONE, 0);
        }

        private static boolean isCutOff(Records held, int at, int sort) {
            int cut = held.cutOver(at);
            boolean isAskedForTheCut = (sort == CUT || sort == TRUST) && held.placeAt(cut) == at;
            return cut != NONE && !isAskedForTheCut;
        }

        private static void answerCutOff(Records held, int at, int least, boolean isChanged, Answer answer) {
            if (isChanged) {
                answer.tell(LED, NONE, at, least);
                return;
            }
            int cut = held.cutOver(at);
            int place = held.placeAt(cut);
            answer.tell(REFERRED, NONE, place, held.lifeAt(cut));
            answer.cutZone = held.numberAt(cut);
            answer.cutTrust = held.numberAt(held.rowOf(place, TRUST));
        }

        /** The name if it is there, otherwise the star that stands for it, NONE where no star can be. */
        private int placeFor(Records held, int at) {
            if (held.isThereBy(held.count, at)) {
                return at;
            }
            int name = at;
            for (int i = 0; i < MOST_FIGURES && name != apex; i++) {
                name /= 10;
                if (held.isThereBy(held.count, name)) {
                    break;
                }
            }
            return name == 0 ? NONE : name * 10;
        }

        private void answerAt(Records held, int place, int at, int sort, int least, Answer answer) {
            int row = held.rowOf(place, sort);
            if (row != NONE) {
                answer.tell(FOUND, held.numberAt(row), at, Math.min(least, held.lifeAt(row)));
                return;
            }
            boolean isThere = place == at || held.countAt(place) > 0;
            answer.tell(isThere ? NO_DATA : NO_NAME, NONE, at, Math.min(least, life));
        }

        /** The key before. */
        int changeKey(int slot, int key) {
            int before = slot == 0 ? firstKey : secondKey;
            if (slot == 0) {
                firstKey = key;
            } else {
                secondKey = key;
            }
            return before;
        }

        boolean isGoodFor(int number, int now) {
            boolean isInWindow = now >= windowFrom && now <= windowTo;
            return isInWindow && (isKeyFor(firstKey, number) || isKeyFor(secondKey, number));
        }

        private static boolean isKeyFor(int key, int number) {
            return key != NONE && numberOfKey(key) == number;
        }

        static int numberOfKey(int key) {
            return (key * 31 + 7) % KEY_NUMBERS;
        }
    }

    private static final class Zones {
        private final Zone[] rows;
        private int count;

        Zones() {
            rows = new Zone[MOST_ZONES];
            for (int i = 0; i < rows.length; i++) {
                rows[i] = new Zone();
            }
            rows[0].life = FIRST_LIFE;
            count = 1;
        }

        /** The zone at the top in place of one that is not there: callers look at the number first. */
        Zone at(int number) {
            return number >= 0 && number < count && number < rows.length ? rows[number] : rows[0];
        }

        boolean isAt(int number, int apex) {
            return number >= 0 && number < count && at(number).apex == apex;
        }

        boolean isOneAt(int apex) {
            for (int i = 0; i < count; i++) {
                if (at(i).apex == apex) {
                    return true;
                }
            }
            return false;
        }

        int make(int apex, int life) {
            int number = count;
            count++;
            Zone made = at(number);
            made.apex = apex;
            made.life = life;
            return number;
        }
    }

    /** The conditions and changes that are told for the next update. */
    private static final class Changes {
        private static final int NEED = 0, NEED_NOT = 1, PUT = 2, DROP = 3;

        private final int[] kinds = new int[MOST_TOLD];
        private final int[] places = new int[MOST_TOLD];
        private final int[] sorts = new int[MOST_TOLD];
        private final int[] numbers = new int[MOST_TOLD];
        private final int[] lives = new int[MOST_TOLD];
        private int count;
        // What is put counts in the end alone, so there may be more on the way.
        private final Records trial = new Records(MOST_RECORDS + MOST_TOLD);

        /** How many are told then. */
        int tell(int kind, int place, int sort, int number, int life) {
            if (count >= 0 && count < kinds.length) {
                kinds[count] = kind;
                places[count] = place;
                sorts[count] = sort;
                numbers[count] = number;
                lives[count] = life;
                count++;
            }
            return count;
        }

        boolean doTo(Zone zone, Zones zones) {
            trial.become(zone.records);
            boolean isDone = areMet(zone.records) && areMade() && zone.isFit(trial, zones);
            if (isDone) {
                zone.take(trial);
            }
            count = 0;
            return isDone;
        }

        private boolean areMet(Records ahead) {
            for (int i = 0; i < count && i < kinds.length; i++) {
                boolean isThere = ahead.rowOf(places[i], sorts[i]) != NONE;
                if (kinds[i] == NEED && !isThere || kinds[i] == NEED_NOT && isThere) {
                    return false;
                }
            }
            return true;
        }

        private boolean areMade() {
            for (int i = 0; i < count && i < kinds.length; i++) {
                if (kinds[i] == PUT) {
                    trial.set(places[i], sorts[i], numbers[i], lives[i]);
                }
                if (kinds[i] == DROP && !trial.remove(places[i], sorts[i])) {
                    return false;
                }
            }
            return true;
        }
    }

    private static final class Answer {
        private int kind = NONE;
        private int number = NONE;
        private int name = NONE;
        private int life;
        private int questions;
        private boolean isOld;
        // Of REFERRED alone: the zone of the CUT, and the number of the TRUST there, NONE without one.
        private int cutZone = NONE;
        private int cutTrust = NONE;

        void tell(int kind, int number, int name, int life) {
            this.kind = kind;
            this.number = number;
            this.name = name;
            this.life = life;
        }

        int detail(int what) {
            if (kind == NONE) {
                return NONE;
            }
            switch (what) {
                case 0: return number;
                case 1: return name;
                case 2: return life;
                case 3: return questions;
                default: return isOld ? 1 : 0;
            }
        }
    }

    /** The answers and zones that the resolver keeps. */
    private static final class Kept {
        private final int[] names = new int[MOST_ANSWERS];
        private final int[] sorts = new int[MOST_ANSWERS];
        private final int[] kinds = new int[MOST_ANSWERS];
        private final int[] numbers = new int[MOST_ANSWERS];
        private final int[] ends = new int[MOST_ANSWERS];
        private final int[] lives = new int[MOST_ANSWERS];
        private final int[] times = new int[MOST_ANSWERS];
        // Several answers are kept at one time, so their turns tell which was kept latest.
        private final int[] turns = new int[MOST_ANSWERS];
        private int count;
        private int turn;
        // The zones: up to which time each one holds; all are kept at their apexes.
        private final int[] zoneEnds = new int[MOST_ZONES];

        private boolean isRow(int row) {
            return row >= 0 && row < count && row < names.length;
        }

        int rowOf(int name, int sort) {
            for (int i = 0; i < count && i < names.length; i++) {
                if (names[i] == name && sorts[i] == sort) {
                    return i;
                }
            }
            return NONE;
        }

        boolean isHolding(int row, int now) {
            return isRow(row) && now < times[row] + lives[row];
        }

        boolean isUsableAsOld(int row, int now) {
            return isRow(row) && now - times[row] < OLDEST;
        }

        void read(int row, int now, Answer answer) {
            if (isRow(row)) {
                answer.tell(kinds[row], numbers[row], ends[row], times[row] + lives[row] - now);
            }
        }

        void keepAnswer(int name, int sort, Answer answer, int now) {
            int row = rowToKeepIn(name, sort);
            if (isRow(row)) {
                names[row] = name;
                sorts[row] = sort;
                kinds[row] = answer.kind;
                numbers[row] = answer.number;
                ends[row] = answer.name;
                lives[row] = answer.life;
                times[row] = now;
                turns[row] = turn;
                turn++;
            }
        }

        private int rowToKeepIn(int name, int sort) {
            int row = rowOf(name, sort);
            if (row != NONE) {
                return row;
            }
            if (count < names.length) {
                count++;
                return count - 1;
            }
            int first = NONE;
            int firstTurn = turn;
            for (int i = 0; i < count && i < turns.length; i++) {
                if (turns[i] < firstTurn) {
                    first = i;
                    firstTurn = turns[i];
                }
            }
            return first;
        }

        void keepZone(int number, int life, int now) {
            if (number >= 0 && number < zoneEnds.length) {
                zoneEnds[number] = now + life;
            }
        }

        boolean isZoneHolding(int number, int now) {
            return number >= 0 && number < zoneEnds.length && now < zoneEnds[number];
        }

        /** How many answers still held. */
        int clear(int now) {
            int held = 0;
            for (int i = 0; i < count; i++) {
                if (isHolding(i, now)) {
                    held++;
                }
            }
            count = 0;
            for (int i = 0; i < zoneEnds.length; i++) {
                zoneEnds[i] = 0;
            }
            return held;
        }
    }

    /** Resolves; the fields behind the anchor are of one resolving, and begun anew by each. */
    private static final class Resolver {
        private final Zones zones;
        private final Kept kept = new Kept();
        private final Answer part = new Answer();
        private int now;
        private int anchor = NONE;

        private boolean isAnew;
        private int name;
        private int sort;
        private int zone;
        private int life;
        private int questions;
        private int ledTimes;
        private boolean isOld;
        // Both mean something only where nothing that is kept counts: the walk is from the top then.
        private int zoneTrust;
        private int worstTrust;

        Resolver(Zones zones) {
            this.zones = zones;
        }

        void run(int firstName, int askedSort, boolean isWithoutKept, Answer end) {
            begin(firstName, askedSort, isWithoutKept);
            for (int i = 0; i < MOST_STEPS; i++) {
                takePart();
                if (part.kind == REFERRED) {
                    goDown();
                    continue;
                }
                life = Math.min(life, part.life);
                worstTrust = Math.max(worstTrust, zoneTrust);
                if (part.kind != LED) {
                    break;
                }
                ledTimes++;
                if (ledTimes >= ONE_NAME_TOO_MANY) {
                    break;
                }
                name = part.name;
                zone = NONE;
            }
            finish(end);
        }

        private void begin(int firstName, int askedSort, boolean isWithoutKept) {
            name = firstName;
            sort = askedSort;
            isAnew = isWithoutKept;
            zone = NONE;
            life = LONGEST_LIFE;
            questions = 0;
            ledTimes = 0;
            isOld = false;
            zoneTrust = SECURE;
            worstTrust = SECURE;
        }

        private void finish(Answer end) {
            if (part.kind == FOUND || part.kind == NO_DATA || part.kind == NO_NAME) {
                end.tell(part.kind, part.number, part.name, isOld ? 0 : life);
            } else {
                end.tell(FAILED, NONE, NONE, 0);
            }
            end.questions = questions;
            end.isOld = isOld;
        }

        /** What is kept, or the answer to a question, or FAILED; a zone is set where one was REFERRED to it. */
        private void takePart() {
            int row = isAnew || zone != NONE ? NONE : kept.rowOf(name, sort);
            if (kept.isHolding(row, now)) {
                kept.read(row, now, part);
            } else if (questions >= MOST_QUESTIONS) {
                part.tell(FAILED, NONE, NONE, 0);
            } else {
                if (zone == NONE) {
                    goToStart();
                }
                askZone();
            }
        }

        private void goToStart() {
            zone = isAnew ? 0 : nearestKeptZone();
            if (anchor == NONE) {
                zoneTrust = INSECURE;
            } else {
                zoneTrust = zones.at(0).isGoodFor(Zone.numberOfKey(anchor), now) ? SECURE : BOGUS;
            }
        }

        private int nearestKeptZone() {
            int best = 0;
            for (int i = 1; i < zones.count; i++) {
                int apex = zones.at(i).apex;
                boolean isOver = Names.isUnder(name, apex) && !(apex == name && (sort == CUT || sort == TRUST));
                // Of two names that a name is under, the longer one is the greater number.
                if (isOver && kept.isZoneHolding(i, now) && apex > zones.at(best).apex) {
                    best = i;
                }
            }
            return best;
        }

        private void askZone() {
            questions++;
            Zone asked = zones.at(zone);
            if (asked.isAnswering()) {
                asked.answer(asked.answering(), name, sort, part);
                keepPart();
            } else {
                takeOldPart();
            }
        }

        private void keepPart() {
            if (isAnew || part.kind == LOST) {
                return;
            }
            if (part.kind == REFERRED) {
                kept.keepZone(part.cutZone, part.life, now);
            } else {
                kept.keepAnswer(name, sort, part, now);
            }
        }

        private void takeOldPart() {
            int row = isAnew ? NONE : kept.rowOf(name, sort);
            if (kept.isUsableAsOld(row, now)) {
                kept.read(row, now, part);
                isOld = true;
            } else {
                part.tell(FAILED, NONE, NONE, 0);
            }
        }

        private void goDown() {
            zone = part.cutZone;
            // What comes first from the top stays.
            if (zoneTrust == SECURE && part.cutTrust == NONE) {
                zoneTrust = INSECURE;
            } else if (zoneTrust == SECURE && !zones.at(zone).isGoodFor(part.cutTrust, now)) {
                zoneTrust = BOGUS;
            }
        }
    }
}
