/**
 * Long runs of calls, made by a generator with a fixed start, on ZoneTree and on Model side by side.
 * The names have few figures, so that cuts, stars, aliases and trees meet often.
 */
public final class RandomRunsTest {
    private static final int RUNS = 4000;
    private static final int CALLS = 512;
    private static final int[] APEXES = {1, 2, 12, 121, 21, 11, 122, 212, 3};

    private final Due due = new Due();
    private final long[] seen = new long[64];
    private long state;
    private ZoneTree tree;
    private Model model;
    private int calls;
    // Names that are resolved again and again, so that what is kept counts, and gets old.
    private final int[] favourites = new int[12];
    // Far more names than answers can be kept, each resolved a few times.
    private final int[] manyNames = new int[80];
    private String run;

    private int below(int bound) {
        state = state * 6364136223846793005L + 1442695040888963407L;
        return (int) ((state >>> 33) % bound);
    }

    private boolean chance(int percent) {
        return below(100) < percent;
    }

    private int name() {
        int figures = below(10);
        int count = figures < 1 ? 0 : figures < 3 ? 1 : figures < 6 ? 2 : figures < 9 ? 3 : 4;
        int name = 0;
        for (int i = 0; i < count; i++) {
            name = name * 10 + 1 + below(chance(90) ? 2 : 3);
        }
        return name;
    }

    private int under(int apex) {
        int name = apex;
        for (int i = below(3); i > 0 && name < 1000; i--) {
            name = name * 10 + 1 + below(2);
        }
        return name;
    }

    private int place(int apex) {
        int name = chance(60) ? under(apex) : chance(80) ? favourites[below(favourites.length)] : name();
        return name > 0 && name < 1000 && chance(20) ? name * 10 : name;
    }

    private int sort() {
        return chance(55) ? 0 : below(5);
    }

    private int apexOf(int zone) {
        return Model.number(model.parts.get(zone).apex);
    }

    private int anyZone() {
        return below(model.parts.size());
    }

    /** A value of a call, or which exception it threw. */
    private static long caught(Due.Call call) {
        try {
            return call.answer();
        } catch (IllegalStateException e) {
            return -1000;
        } catch (IllegalArgumentException e) {
            return -2000;
        }
    }

    private void both(String call, Due.Call mine, Due.Call other) {
        calls++;
        due.is(run + call, caught(mine), caught(other));
    }

    private void look() {
        for (int what = 0; what <= 4; what++) {
            int asked = what;
            both("told " + what, () -> tree.told(asked), () -> model.latest[asked]);
        }
    }

    private void tell(int apex) {
        int name = place(apex);
        int sort = chance(40) ? 0 : chance(60) ? 1 : below(4);
        int life = 1 + below(chance(80) ? 12 : 50);
        int kind = below(20);
        if (kind < 15) {
            int led = chance(70) ? under(apexOf(anyZone())) : name();
            int number = sort == 0 ? below(100) : sort == 3 ? anyZone() : led;
            if (sort == 3 && number > 0) {
                name = apexOf(number);
            }
            put(name, sort, number, life);
            if (sort == 3 && chance(60)) {
                put(name, 4, chance(70) ? 31 * below(3) + 7 : below(997), life);
            }
        } else if (kind < 19) {
            drop(name, sort, apex);
        } else {
            need(name, sort, chance(30));
        }
    }

    private void need(int name, int sort, boolean isThere) {
        both("need " + name + " " + sort, () -> tree.need(name, sort, isThere),
            () -> model.tell(isThere ? "need" : "neednot", name, sort, 0, 0));
    }

    private void put(int name, int sort, int number, int life) {
        both("put " + name + " " + sort, () -> tree.put(name, sort, number, life),
            () -> model.tell("put", name, sort, number, life));
    }

    private void drop(int anyName, int anySort, int apex) {
        int name = anyName;
        int sort = anySort;
        for (Model.Part part : model.parts) {
            if (Model.number(part.apex) == apex && !part.rows.isEmpty() && chance(80)) {
                Model.Row row = part.rows.get(below(part.rows.size()));
                name = Model.number(row.at());
                sort = row.sort();
            }
        }
        int dropped = name;
        int droppedSort = sort;
        both("drop " + name + " " + sort, () -> tree.drop(dropped, droppedSort),
            () -> model.tell("drop", dropped, droppedSort, 0, 0));
    }

    private void update() {
        int zone = anyZone();
        for (int i = chance(85) ? 1 : 1 + below(4); i > 0; i--) {
            tell(apexOf(zone));
        }
        updateOf(zone);
        both("serial " + zone, () -> tree.zoneHas(zone, 1), () -> model.zoneHas(zone, 1));
    }

    private void updateOf(int zone) {
        both("update " + zone, () -> tree.update(zone) ? 1 : 0, () -> model.update(zone) ? 1 : 0);
    }

    private void lookAtZone() {
        int zone = anyZone();
        for (int what = 0; what <= 4; what++) {
            int asked = what;
            both("zoneHas " + zone + " " + what, () -> tree.zoneHas(zone, asked), () -> model.zoneHas(zone, asked));
        }
        int name = place(apexOf(zone));
        int sort = sort();
        both("record", () -> tree.record(zone, name, sort), () -> model.record(zone, name, sort));
        boolean isBehind = chance(50);
        both("neighbour " + zone + " " + name + " " + isBehind, () -> tree.neighbour(zone, name, isBehind),
            () -> model.neighbour(zone, name, isBehind));
    }

    private void askZone() {
        int zone = anyZone();
        int name = chance(90) ? under(apexOf(zone)) : name();
        int sort = sort();
        both("ask " + zone + " " + name + " " + sort, () -> tree.ask(zone, name, sort),
            () -> model.ask(zone, name, sort));
        look();
    }

    private void resolve() {
        int name = chance(70) ? favourites[below(favourites.length)] : under(apexOf(anyZone()));
        int sort = sort();
        int kind = below(10);
        if (kind < 7) {
            both("resolve " + name + " " + sort, () -> tree.resolve(name, sort),
                () -> model.resolve(name, sort, false));
        } else if (kind < 8) {
            both("resolveAnew " + name + " " + sort, () -> tree.resolveAnew(name, sort),
                () -> model.resolve(name, sort, true));
        } else {
            both("trust " + name + " " + sort, () -> {
                int trust = tree.trust(name, sort);
                seen[20 + trust + 1]++;
                return trust;
            }, () -> model.trust(name, sort));
        }
        if (chance(50)) {
            look();
        }
        if (kind < 8) {
            seen[model.latest[4] * 10 + (model.latest[1] == -1 ? 6 : model.latest[0] == -1 ? 1 : 0)]++;
            seen[30 + model.latest[3]]++;
        }
    }

    private void resolveOneOfMany() {
        int name = manyNames[below(manyNames.length)];
        both("resolve " + name, () -> tree.resolve(name, 0), () -> model.resolve(name, 0, false));
        both("questions", () -> tree.told(3), () -> model.latest[3]);
        both("is old", () -> tree.told(4), () -> model.latest[4]);
        seen[50 + (model.answers.size() == 40 ? 1 : 0)]++;
    }

    private void manyCalls() {
        int kind = below(100);
        if (kind < 4) {
            int zone = anyZone();
            boolean isDead = chance(30);
            tree.setDead(zone, isDead);
            calls++;
            model.parts.get(zone).dead = isDead;
        } else if (kind < 10) {
            passOrForget();
        } else if (kind < 12) {
            update();
        } else {
            resolveOneOfMany();
        }
    }

    private void setTrust() {
        int zone = anyZone();
        int kind = below(4);
        if (kind < 2) {
            setKey(zone, below(2), below(4) - 1);
        } else if (kind < 3) {
            int from = Math.max(0, model.now - below(20) + 5);
            setWindow(zone, from, from + below(100));
        } else {
            setAnchor(below(4) - 1);
        }
    }

    private void passOrForget() {
        if (chance(5)) {
            both("forget", () -> tree.forget(), () -> model.forget());
            return;
        }
        int time = 1 + below(chance(90) ? 8 : 60);
        both("pass " + time, () -> tree.pass(time), () -> model.now += time);
    }

    private void oneCall(int talk) {
        int kind = below(100);
        if (kind < 3 + talk / 20) {
            makeZone();
        } else if (kind < 10 + talk) {
            update();
        } else if (kind < 15 + talk) {
            int zone = anyZone();
            both("bringUp " + zone, () -> tree.bringUp(zone), () -> model.bringUp(zone));
        } else if (kind < 19 + talk) {
            int zone = anyZone();
            boolean isDead = chance(35);
            tree.setDead(zone, isDead);
            calls++;
            model.parts.get(zone).dead = isDead;
        } else if (kind < 22 + talk) {
            lookAtZone();
        } else if (kind < 27 + talk) {
            setTrust();
        } else if (kind < 32 + talk) {
            passOrForget();
        } else if (kind < 42 + talk) {
            askZone();
        } else {
            resolve();
        }
    }

    private void makeZone() {
        int apex = APEXES[below(APEXES.length)];
        int life = 1 + below(20);
        both("zone " + apex, () -> tree.zone(apex, life), () -> model.zone(apex, life));
    }

    /** Zones that are cut from the next ones above, most of them with keys, and TRUSTs that fit these. */
    private void plant() {
        for (int i = below(7); i > 0; i--) {
            makeZone();
        }
        for (int zone = 1; zone < model.parts.size(); zone++) {
            int apex = apexOf(zone);
            int above = 0;
            for (int other = 0; other < model.parts.size(); other++) {
                String name = Model.text(apexOf(other));
                boolean isOver = other != zone && Model.under(Model.text(apex), name);
                if (isOver && name.length() > Model.text(apexOf(above)).length() && chance(90)) {
                    above = other;
                }
            }
            put(apex, 3, zone, 5 + below(46));
            if (chance(80)) {
                put(apex, 4, 38, 5 + below(46));
                setKey(zone, below(2), chance(80) ? 1 : 2);
            }
            setWindow(zone, 0, below(300));
            updateOf(above);
        }
        if (chance(80)) {
            setAnchor(1);
            setKey(0, below(2), chance(90) ? 1 : 2);
            setWindow(0, 0, below(600));
        }
    }

    private void setKey(int zone, int slot, int key) {
        both("setKey", () -> tree.setKey(zone, slot, key), () -> {
            int before = model.parts.get(zone).keys[slot];
            model.parts.get(zone).keys[slot] = key;
            return before;
        });
    }

    private void setWindow(int zone, int from, int to) {
        tree.setWindow(zone, from, to);
        calls++;
        model.parts.get(zone).from = from;
        model.parts.get(zone).to = to;
    }

    private void setAnchor(int key) {
        both("setAnchor", () -> tree.setAnchor(key), () -> {
            int before = model.anchor;
            model.anchor = key;
            return before;
        });
    }

    private void oneRun(int number) {
        state = number * 7919L + 17;
        tree = new ZoneTree();
        model = new Model();
        calls = 0;
        run = "run " + number + ": ";
        int talk = below(45);
        for (int i = 0; i < favourites.length; i++) {
            favourites[i] = chance(50) ? name() : under(APEXES[below(APEXES.length)]);
        }
        if (chance(80)) {
            plant();
        }
        for (int i = 0; i < manyNames.length; i++) {
            manyNames[i] = chance(30) ? under(APEXES[below(APEXES.length)]) : 1 + below(9) + 10 * (1 + below(9));
        }
        boolean isOfMany = number % 4 == 0;
        while (calls < CALLS - 60) {
            if (isOfMany && calls > 100) {
                manyCalls();
            } else {
                oneCall(calls < 150 ? 45 : talk);
            }
        }
    }

    public static void main(String[] args) {
        RandomRunsTest test = new RandomRunsTest();
        for (int i = 0; i < RUNS; i++) {
            test.oneRun(i);
        }
        if (args.length > 0) {
            for (int i = 0; i < test.seen.length; i++) {
                System.out.println(i + ": " + test.seen[i]);
            }
        }
        test.due.end();
    }
}
