import java.util.ArrayList;
import java.util.HashMap;
import java.util.List;
import java.util.Map;
import java.util.TreeMap;

/**
 * The document's words once more, in another form than the program: the history is the list of
 * all outcomes, counters stand in maps, and a branch's outcome is kept beside its prediction.
 */
final class PlainModel {
    private static final class Flying {
        int place;
        List<Boolean> ahead;
        int plainIndex;
        int globalIndex;
        boolean[] said = new boolean[4];
        Boolean outcome;

        boolean isWrong() {
            return outcome != null && outcome != said[3];
        }
    }

    private static final class Entry {
        int place;
        int count;
        int trip;
        int trust;
    }

    private int p = 4;
    private int g = 4;
    private int h = 4;
    private List<Boolean> outcomes;
    private List<Map<Integer, Integer>> counters;
    private List<Map<Integer, Integer>> latest;
    private List<Flying> flying;
    private TreeMap<Integer, Entry> entries;
    private long commits;
    private long drops;
    private long[] misses;
    private long[][] meetings;

    PlainModel() {
        clear();
    }

    private void clear() {
        outcomes = new ArrayList<>();
        counters = List.of(new HashMap<>(), new HashMap<>(), new HashMap<>());
        latest = List.of(new HashMap<>(), new HashMap<>());
        flying = new ArrayList<>();
        entries = new TreeMap<>();
        commits = 0;
        drops = 0;
        misses = new long[4];
        meetings = new long[2][2];
    }

    boolean setSizes(int newP, int newG, int newH) {
        if (newP < 2 || newP > 8 || newG < 2 || newG > 8 || newH < 0 || newH > newG) {
            throw new IllegalArgumentException();
        }
        boolean isOther = newP != p || newG != g || newH != h;
        p = newP;
        g = newG;
        h = newH;
        clear();
        return isOther;
    }

    boolean predict(int place) {
        needPlace(place);
        if (flying.size() == 16) {
            throw new IllegalStateException();
        }
        Flying branch = new Flying();
        branch.place = place;
        branch.ahead = new ArrayList<>(outcomes);
        branch.plainIndex = place % power(p);
        branch.globalIndex = (place ^ history()) % power(g);
        branch.said[0] = value(0, branch.plainIndex) > 1;
        branch.said[1] = value(1, branch.globalIndex) > 1;
        branch.said[2] = branch.said[value(2, place % power(p)) > 1 ? 1 : 0];
        branch.said[3] = branch.said[2];
        Entry entry = entryFor(place);
        if (entry != null && entry.trust == 3) {
            branch.said[3] = presumed(entry) < entry.trip;
        }
        flying.add(branch);
        outcomes.add(branch.said[3]);
        return branch.said[3];
    }

    int resolve(int index, boolean isTaken) {
        Flying branch = flyingAt(index);
        if (branch.outcome != null) {
            throw new IllegalStateException();
        }
        branch.outcome = isTaken;
        if (!branch.isWrong()) {
            return -1;
        }
        int many = flying.size() - index - 1;
        drops += many;
        flying = new ArrayList<>(flying.subList(0, index + 1));
        outcomes = new ArrayList<>(branch.ahead);
        outcomes.add(isTaken);
        return many;
    }

    boolean commit() {
        if (flying.isEmpty() || flying.get(0).outcome == null) {
            throw new IllegalStateException();
        }
        Flying branch = flying.get(0);
        boolean o = branch.outcome;
        if (branch.said[0] != branch.said[1]) {
            step(2, branch.plainIndex, branch.said[1] == o);
        }
        for (int table = 0; table < 2; table++) {
            int index = table == 0 ? branch.plainIndex : branch.globalIndex;
            Integer other = latest.get(table).put(index, branch.place);
            if (other != null && other != branch.place) {
                meetings[table][0]++;
                meetings[table][1] += (value(table, index) > 1) == o ? 0 : 1;
            }
            step(table, index, o);
        }
        for (int which = 0; which < 4; which++) {
            misses[which] += branch.said[which] == o ? 0 : 1;
        }
        commitLoop(branch, o);
        flying.remove(0);
        commits++;
        return branch.isWrong();
    }

    private void commitLoop(Flying branch, boolean o) {
        Entry entry = entryFor(branch.place);
        if (entry != null && o) {
            entry.count++;
            if (entry.count > 1000) {
                entries.values().remove(entry);
            }
        } else if (entry != null) {
            boolean isSame = entry.trip != 0 && entry.trip == entry.count;
            entry.trust = isSame ? Math.min(3, entry.trust + 1) : 0;
            entry.trip = entry.count;
            entry.count = 0;
        } else if (!o && branch.isWrong()) {
            Entry made = new Entry();
            made.place = branch.place;
            entries.put(numberForNew(), made);
        }
    }

    private int numberForNew() {
        for (int number = 0; number < 8; number++) {
            if (!entries.containsKey(number)) {
                return number;
            }
        }
        for (int trust = 0; trust < 4; trust++) {
            for (int number = 0; number < 8; number++) {
                if (entries.get(number).trust == trust) {
                    return number;
                }
            }
        }
        throw new AssertionError("every entry has a trust");
    }

    boolean train(int place, boolean isTaken) {
        needPlace(place);
        if (!flying.isEmpty()) {
            throw new IllegalStateException();
        }
        predict(place);
        resolve(0, isTaken);
        return !commit();
    }

    int flush(int many) {
        if (many < 0 || many > flying.size()) {
            throw new IllegalArgumentException();
        }
        for (int i = 0; i < many; i++) {
            outcomes = flying.remove(flying.size() - 1).ahead;
            drops++;
        }
        return flying.size();
    }

    int inFlight() {
        return flying.size();
    }

    int place(int index) {
        return flyingAt(index).place;
    }

    int state(int index) {
        Flying branch = flyingAt(index);
        return branch.outcome == null ? 0 : branch.isWrong() ? 2 : 1;
    }

    boolean predicted(int index, int which) {
        needWithin(which, 4);
        return flyingAt(index).said[which];
    }

    int history() {
        int number = 0;
        for (int i = Math.max(0, outcomes.size() - h); i < outcomes.size(); i++) {
            number = 2 * number + (outcomes.get(i) ? 1 : 0);
        }
        return number;
    }

    int counter(int table, int index) {
        needWithin(table, 3);
        needWithin(index, power(table == 1 ? g : p));
        return value(table, index);
    }

    int loop(int number, int what) {
        needWithin(number, 8);
        needWithin(what, 5);
        Entry e = entries.get(number);
        return e == null ? -1 : new int[] {e.place, e.count, e.trip, e.trust, presumed(e)}[what];
    }

    long commits() {
        return commits;
    }

    long misses(int which) {
        needWithin(which, 4);
        return misses[which];
    }

    long drops() {
        return drops;
    }

    long meetings(int table, boolean isHarmful) {
        needWithin(table, 2);
        return meetings[table][isHarmful ? 1 : 0];
    }

    double accuracy() {
        return commits == 0 ? 1 : (double) (commits - misses[3]) / commits;
    }

    long digest() {
        List<Long> numbers = new ArrayList<>(List.of((long) p, (long) g, (long) h, (long) history()));
        for (int table = 0; table < 3; table++) {
            for (int i = 0; i < power(table == 1 ? g : p); i++) {
                numbers.add((long) value(table, i));
            }
        }
        for (int number = 0; number < 8; number++) {
            for (int what = 0; what < 4; what++) {
                numbers.add((long) loop(number, what));
            }
        }
        for (int i = 0; i < flying.size(); i++) {
            numbers.add((long) place(i));
            numbers.add((long) state(i));
        }
        numbers.addAll(List.of(commits, drops, meetings[0][0], meetings[1][0]));
        long d = 71;
        for (long x : numbers) {
            d = d * 31 + x;
        }
        return d;
    }

    private int presumed(Entry entry) {
        int count = entry.count;
        for (Flying branch : flying) {
            if (branch.place == entry.place) {
                boolean isTaken = branch.outcome == null ? branch.said[3] : branch.outcome;
                count = isTaken ? count + 1 : 0;
            }
        }
        return count;
    }

    private Entry entryFor(int place) {
        for (Entry entry : entries.values()) {
            if (entry.place == place) {
                return entry;
            }
        }
        return null;
    }

    private Flying flyingAt(int index) {
        needWithin(index, flying.size());
        return flying.get(index);
    }

    private int value(int table, int index) {
        return counters.get(table).getOrDefault(index, 1);
    }

    private void step(int table, int index, boolean isUp) {
        int moved = value(table, index) + (isUp ? 1 : -1);
        if (moved >= 0 && moved <= 3) {
            counters.get(table).put(index, moved);
        }
    }

    private static int power(int bits) {
        int product = 1;
        for (int i = 0; i < bits; i++) {
            product *= 2;
        }
        return product;
    }

    private static void needPlace(int place) {
        if (place < 0 || place > 65535) {
            throw new IllegalArgumentException();
        }
    }

    private static void needWithin(int index, int size) {
        if (index < 0 || index >= size) {
            throw new IndexOutOfBoundsException();
        }
    }
}
