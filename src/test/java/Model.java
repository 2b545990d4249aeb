import java.util.ArrayList;
import java.util.LinkedHashMap;
import java.util.List;
import java.util.Map;
import java.util.TreeSet;

/**
 * The document read a second time, in the plainest way: names are texts of figures, a star has a 0 behind.
 * It answers what is asked of ZoneTree, and knows nothing of how that class does it. Arguments are in range here.
 */
final class Model {
    static final int NONE = -1;
    static final int VALUE = 0, ALIAS = 1, TREE = 2, CUT = 3, TRUST = 4;
    static final int FOUND = 0, NO_DATA = 1, NO_NAME = 2, REFERRED = 3, LED = 4, LOST = 5, FAILED = 6;

    record Row(String at, int sort, int number, int life) { }

    record Told(int kind, int number, String name, int life, int cutZone, int cutTrust) { }

    record Keep(Told told, int time) { }

    static final class Part {
        String apex;
        int life;
        int serial;
        List<Row> rows = new ArrayList<>();
        List<Row> copy;
        int copySerial = NONE;
        boolean dead;
        int[] keys = {NONE, NONE};
        int from;
        int to;
    }

    final List<Part> parts = new ArrayList<>();
    final List<Object[]> changes = new ArrayList<>();
    final LinkedHashMap<String, Keep> answers = new LinkedHashMap<>();
    final Map<Integer, Integer> zoneEnds = new LinkedHashMap<>();
    int now;
    int anchor = NONE;
    int[] latest = {NONE, NONE, NONE, NONE, NONE};
    int walkTrust;

    Model() {
        Part top = new Part();
        top.apex = "";
        top.life = 10;
        parts.add(top);
    }

    static String text(int name) {
        return name == 0 ? "" : Integer.toString(name);
    }

    static int number(String name) {
        return name.isEmpty() ? 0 : Integer.parseInt(name);
    }

    static boolean star(String at) {
        return at.endsWith("0");
    }

    static String base(String at) {
        return star(at) ? at.substring(0, at.length() - 1) : at;
    }

    static boolean under(String name, String above) {
        return name.startsWith(above);
    }

    static Row find(List<Row> rows, String at, int sort) {
        for (Row row : rows) {
            if (row.at.equals(at) && row.sort == sort) {
                return row;
            }
        }
        return null;
    }

    int zone(int apex, int life) {
        for (Part part : parts) {
            if (part.apex.equals(text(apex))) {
                throw new IllegalStateException();
            }
        }
        if (parts.size() == 6) {
            throw new IllegalStateException();
        }
        Part made = new Part();
        made.apex = text(apex);
        made.life = life;
        parts.add(made);
        return parts.size() - 1;
    }

    int tell(String kind, int name, int sort, int number, int life) {
        if (changes.size() == 10) {
            throw new IllegalStateException();
        }
        changes.add(new Object[] {kind, new Row(text(name), sort, number, life)});
        return changes.size();
    }

    boolean update(int zone) {
        Part part = parts.get(zone);
        List<Row> rows = new ArrayList<>(part.rows);
        boolean good = true;
        for (Object[] change : changes) {
            Row row = (Row) change[1];
            Row ahead = find(part.rows, row.at, row.sort);
            Row there = find(rows, row.at, row.sort);
            switch ((String) change[0]) {
                case "need" -> good &= ahead != null;
                case "neednot" -> good &= ahead == null;
                case "put" -> {
                    rows.remove(there);
                    rows.add(row);
                }
                default -> {
                    good &= there != null;
                    rows.remove(there);
                }
            }
        }
        changes.clear();
        if (!good || !fits(part, rows)) {
            return false;
        }
        part.rows = rows;
        part.serial = (part.serial + 1) % 16;
        return true;
    }

    boolean fits(Part part, List<Row> rows) {
        if (rows.size() > 20) {
            return false;
        }
        for (Row row : rows) {
            boolean good = under(base(row.at), part.apex);
            for (Row other : rows) {
                boolean alone = row.sort != ALIAS || other == row || !other.at.equals(row.at);
                boolean bare = row.sort != TREE || other.at.equals(row.at) || !under(other.at, row.at);
                good &= alone && bare;
            }
            if (row.sort == TREE || row.sort == CUT) {
                good &= !star(row.at);
            }
            if (row.sort == CUT) {
                good &= row.number < parts.size() && parts.get(row.number).apex.equals(row.at);
                good &= !row.at.equals(part.apex);
            }
            if (row.sort == TRUST) {
                good &= find(rows, row.at, CUT) != null;
            }
            if (!good) {
                return false;
            }
        }
        return true;
    }

    /** The names and stars that are there and the zone's own, as texts: these are in the order of the document. */
    TreeSet<String> own(Part part) {
        TreeSet<String> there = new TreeSet<>();
        for (Row row : part.rows) {
            there.add(row.at);
            for (String name = base(row.at); under(name, part.apex); name = name.substring(0, name.length() - 1)) {
                there.add(name);
                if (name.isEmpty()) {
                    break;
                }
            }
        }
        for (Row cut : part.rows) {
            if (cut.sort == CUT) {
                there.removeIf(at -> under(at, cut.at) && !at.equals(cut.at));
            }
        }
        return there;
    }

    int zoneHas(int zone, int what) {
        Part part = parts.get(zone);
        return switch (what) {
            case 0 -> number(part.apex);
            case 1 -> part.serial;
            case 2 -> part.rows.size();
            case 3 -> part.copySerial;
            default -> (int) own(part).stream().filter(at -> !star(at)).count();
        };
    }

    int record(int zone, int name, int sort) {
        Row row = find(parts.get(zone).rows, text(name), sort);
        return row == null ? NONE : row.number;
    }

    int bringUp(int zone) {
        Part part = parts.get(zone);
        int sent = part.rows.size();
        if (part.copy != null) {
            int ahead = Math.floorMod(part.serial - part.copySerial, 16);
            if (ahead == 0) {
                return 0;
            }
            if (ahead <= 4) {
                List<Row> fresh = new ArrayList<>(part.rows);
                fresh.removeAll(part.copy);
                List<Row> gone = new ArrayList<>(part.copy);
                gone.removeAll(part.rows);
                sent = fresh.size() + gone.size();
            }
        }
        part.copy = new ArrayList<>(part.rows);
        part.copySerial = part.serial;
        return sent;
    }

    int neighbour(int zone, int name, boolean isBehind) {
        TreeSet<String> own = own(parts.get(zone));
        String found = isBehind ? own.higher(text(name)) : own.floor(text(name));
        return found == null ? NONE : number(found);
    }

    Told question(Part part, List<Row> rows, String first, int sort) {
        String name = first;
        int life = 1000;
        int renamed = 0;
        while (true) {
            Row top = null;
            Row tree = null;
            for (Row row : rows) {
                if (row.sort == CUT && under(name, row.at) && (top == null || row.at.length() < top.at.length())) {
                    top = row;
                }
                if (row.sort == TREE && under(name, row.at) && !name.equals(row.at)) {
                    tree = row;
                }
            }
            if (top != null && !(name.equals(top.at) && sort >= CUT)) {
                if (renamed > 0) {
                    return new Told(LED, NONE, name, life, NONE, NONE);
                }
                Row trust = find(rows, top.at, TRUST);
                return new Told(REFERRED, NONE, top.at, top.life, top.number, trust == null ? NONE : trust.number);
            }
            String next;
            if (tree != null) {
                life = Math.min(life, tree.life);
                next = text(tree.number) + name.substring(tree.at.length());
            } else {
                String place = name;
                while (!isThere(rows, place) && place.length() > part.apex.length()) {
                    place = place.substring(0, place.length() - 1);
                }
                boolean there = place.equals(name) && isThere(rows, name);
                if (!there) {
                    // The top has no star.
                    place = place.isEmpty() ? "none" : place + "0";
                }
                Row found = find(rows, place, sort);
                if (found != null) {
                    return new Told(FOUND, found.number, name, Math.min(life, found.life), NONE, NONE);
                }
                Row alias = find(rows, place, ALIAS);
                if (alias == null) {
                    boolean data = there || isThere(rows, place);
                    return new Told(data ? NO_DATA : NO_NAME, NONE, name, Math.min(life, part.life), NONE, NONE);
                }
                life = Math.min(life, alias.life);
                next = text(alias.number);
            }
            renamed++;
            if (next.length() > 4 || renamed == 9) {
                return new Told(LOST, NONE, null, 0, NONE, NONE);
            }
            name = next;
            if (!under(name, part.apex)) {
                return new Told(LED, NONE, name, life, NONE, NONE);
            }
        }
    }

    static boolean isThere(List<Row> rows, String place) {
        for (Row row : rows) {
            if (row.at.equals(place) || !star(place) && under(row.at, place)) {
                return true;
            }
        }
        return false;
    }

    int ask(int zone, int name, int sort) {
        Part part = parts.get(zone);
        if (!under(text(name), part.apex)) {
            throw new IllegalStateException();
        }
        Told told = question(part, part.rows, text(name), sort);
        latest = new int[] {told.number, told.name == null ? NONE : number(told.name), told.life, 1, 0};
        return told.kind;
    }

    int resolve(int name, int sort, boolean anew) {
        int[] ending = new int[5];
        int kind = walk(text(name), sort, anew, ending);
        latest = ending;
        return kind;
    }

    int trust(int name, int sort) {
        int kind = walk(text(name), sort, true, new int[5]);
        return kind == FAILED ? NONE : walkTrust;
    }

    private static int failed(int[] ending, int questions, boolean old) {
        int[] values = {NONE, NONE, 0, questions, old ? 1 : 0};
        System.arraycopy(values, 0, ending, 0, 5);
        return FAILED;
    }

    int walk(String first, int sort, boolean anew, int[] ending) {
        String name = first;
        int questions = 0;
        int led = 0;
        int life = 1000;
        boolean old = false;
        walkTrust = 0;
        while (true) {
            Told told = null;
            Keep keep = anew ? null : answers.get(name + "/" + sort);
            int trust = 1;
            if (keep != null && now < keep.time + keep.told.life) {
                told = keep.told;
                life = Math.min(life, keep.time + told.life - now);
            } else {
                int zone = anew ? 0 : startFor(name, sort);
                if (anchor != NONE) {
                    trust = good(parts.get(0), (anchor * 31 + 7) % 997) ? 0 : 2;
                }
                while (true) {
                    if (questions == 12) {
                        return failed(ending, questions, old);
                    }
                    questions++;
                    Part part = parts.get(zone);
                    if (part.dead && part.copy == null) {
                        if (keep == null || now >= keep.time + 60) {
                            return failed(ending, questions, old);
                        }
                        old = true;
                        told = keep.told;
                        break;
                    }
                    told = question(part, part.dead ? part.copy : part.rows, name, sort);
                    if (told.kind == REFERRED) {
                        zone = told.cutZone;
                        if (!anew) {
                            zoneEnds.put(zone, now + told.life);
                        }
                        if (trust == 0) {
                            trust = told.cutTrust == NONE ? 1 : good(parts.get(zone), told.cutTrust) ? 0 : 2;
                        }
                        continue;
                    }
                    if (told.kind == LOST) {
                        return failed(ending, questions, old);
                    }
                    life = Math.min(life, told.life);
                    if (!anew) {
                        answers.remove(name + "/" + sort);
                        answers.put(name + "/" + sort, new Keep(told, now));
                        if (answers.size() > 40) {
                            answers.remove(answers.keySet().iterator().next());
                        }
                    }
                    break;
                }
            }
            walkTrust = Math.max(walkTrust, trust);
            if (told.kind != LED) {
                int[] values = {told.number, number(told.name), old ? 0 : life, questions, old ? 1 : 0};
                System.arraycopy(values, 0, ending, 0, 5);
                return told.kind;
            }
            led++;
            if (led == 9) {
                return failed(ending, questions, old);
            }
            name = told.name;
        }
    }

    int startFor(String name, int sort) {
        int best = 0;
        for (int i = 1; i < parts.size(); i++) {
            String apex = parts.get(i).apex;
            boolean over = under(name, apex) && (sort < CUT || !name.equals(apex));
            boolean holds = zoneEnds.containsKey(i) && now < zoneEnds.get(i);
            if (over && holds && apex.length() > parts.get(best).apex.length()) {
                best = i;
            }
        }
        return best;
    }

    boolean good(Part part, int number) {
        boolean fits = false;
        for (int key : part.keys) {
            fits |= key != NONE && (key * 31 + 7) % 997 == number;
        }
        return fits && part.from <= now && now <= part.to;
    }

    int forget() {
        int held = 0;
        for (Keep keep : answers.values()) {
            if (now < keep.time + keep.told.life) {
                held++;
            }
        }
        answers.clear();
        zoneEnds.clear();
        return held;
    }
}
