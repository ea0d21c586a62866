import java.util.ArrayList;
import java.util.List;

/**
 * A second house, slow and plain: it holds the entries and what happened to them, and works out from them
 * anew, at each call, what records, locks, cycles, boundaries and copies are.
 */
final class Model {
    private static final int CHANGE = 1;
    private static final int COMMIT = 2;
    private static final int ROLLBACK = 3;
    private static final int HOUSE = 3;

    private record Entry(int number, int kind, int job, int file, int record, int before, int after) {
        boolean isChangeOf(int ofFile, int ofRecord) {
            return kind == CHANGE && file == ofFile && record == ofRecord;
        }
    }

    private record Write(int file, int record, int value) {
    }

    private record Copy(int file, int number) {
    }

    private final List<Entry> entries = new ArrayList<>();
    private final List<Integer> sizes = new ArrayList<>();
    private final List<Write> waiting = new ArrayList<>();
    private final List<Integer> letters = new ArrayList<>();
    private final List<Integer> received = new ArrayList<>();
    private final Copy[] copies = new Copy[4];
    private final int[][] landed = new int[3][8];
    private final int[] numbers = {-1, -1, -1};
    private final int[] limits = new int[3];
    private int dropped;
    private int known;
    private int takenOverAt = -1;
    private boolean up = true;

    int file(int records) {
        argument(records >= 1 && records <= 8);
        state(up && sizes.size() < 3);
        sizes.add(records);
        return sizes.size() - 1;
    }

    int change(int job, int file, int record, int value) {
        argument(job >= 0 && job <= 2 && exists(file, record));
        state(up);
        for (Entry e : openAt(last())) {
            state(e.job() == job || !e.isChangeOf(file, record));
        }
        boolean isNew = openOf(job, last()).isEmpty();
        state(limitOfRoom() - (last() + 1) >= reserve() + (isNew ? 2 : 1));
        write(job, file, record, value);
        return last();
    }

    long get(int file, int record) {
        return up && exists(file, record) ? valueAt(file, record, last()) : JournalHouse.NONE;
    }

    long disk(int file, int record) {
        return exists(file, record) ? landed[file][record] : JournalHouse.NONE;
    }

    int end(int job, boolean commit) {
        argument(job >= 0 && job <= 2);
        state(up && !openOf(job, last()).isEmpty());
        if (commit) {
            close(COMMIT, job);
        } else {
            rollBack(job);
        }
        return last();
    }

    int save(int file, int slot) {
        argument(exists(file, 0) && slot >= 0 && slot <= 3);
        state(up && boundary(file, last()));
        copies[slot] = new Copy(file, last());
        return last();
    }

    int restore(int slot) {
        argument(slot >= 0 && slot <= 3);
        state(up && copies[slot] != null && boundary(copies[slot].file(), last()));
        int limit = last() + 1;
        int changed = bring(copies[slot].file(), copies[slot].number());
        limits[copies[slot].file()] = limit;
        return changed;
    }

    int apply(int file, int number) {
        argument(exists(file, 0));
        state(up && numbers[file] >= 0 && number > numbers[file] && number < limits[file]);
        state(boundary(file, last()) && boundary(file, number));
        state(keptBetween(file, numbers[file], number));
        return bring(file, number);
    }

    int remove(int file, int number) {
        argument(exists(file, 0) && number >= 0);
        boolean live = numbers[file] < 0;
        int own = live ? last() : numbers[file];
        state(up && number < own && boundary(file, last()) && boundary(file, number));
        state(keptBetween(file, number, own));
        int limit = last() + 1;
        int changed = bring(file, number);
        if (live) {
            limits[file] = limit;
        }
        return changed;
    }

    int number(int file) {
        return exists(file, 0) ? numbers[file] : -1;
    }

    int last() {
        return entries.size();
    }

    boolean boundary(int file, int number) {
        if (!exists(file, 0) || number < 0 || number > last()) {
            return false;
        }
        for (Entry e : openAt(number)) {
            if (e.file() == file) {
                return false;
            }
        }
        return true;
    }

    long entry(int number, int what) {
        if (!isKept(number)) {
            return JournalHouse.NONE;
        }
        Entry e = entries.get(number - 1);
        long[] parts = {e.kind(), e.job(), e.file(), e.record(), e.before(), e.after()};
        int known = e.kind() == CHANGE ? 6 : 2;
        return what >= 0 && what < known ? parts[what] : JournalHouse.NONE;
    }

    int drop() {
        int end = 8 * dropped + 8;
        state(up && last() >= end && known >= end);
        for (Entry e : openAt(last())) {
            state(e.number() > end);
        }
        land(waiting.size());
        dropped++;
        return dropped;
    }

    int cut(int n) {
        argument(n >= 0 && n <= waiting.size());
        state(up);
        land(n);
        int lost = waiting.size();
        waiting.clear();
        up = false;
        return lost;
    }

    int start() {
        state(!up);
        up = true;
        for (int file = 0; file < sizes.size(); file++) {
            for (int record = 0; record < sizes.get(file); record++) {
                landed[file][record] = valueAt(file, record, last());
            }
        }
        for (int job = 0; job <= 2; job++) {
            if (!openOf(job, last()).isEmpty()) {
                rollBack(job);
            }
        }
        return last();
    }

    int link(int k, int action) {
        argument(action >= 0 && action <= 3);
        argument(action == 3 ? isKept(k) : k >= 0 && k < letters.size());
        state(action != 3 || up);
        state(action < 2 || letters.size() < 16);
        if (action == 3) {
            letters.add(k);
        } else if (action == 2) {
            letters.add(letters.get(k));
        } else {
            int letter = letters.remove(k);
            if (action == 0) {
                received.add(letter);
            }
        }
        return letters.size();
    }

    int ack() {
        state(up);
        known = applied();
        return known;
    }

    int takeOver() {
        takenOverAt = applied();
        return takenOverAt;
    }

    long remote(int file, int record) {
        if (!exists(file, record)) {
            return JournalHouse.NONE;
        }
        if (takenOverAt >= 0) {
            for (Entry e : openAt(takenOverAt)) {
                if (e.isChangeOf(file, record)) {
                    return e.before();
                }
            }
        }
        return valueAt(file, record, applied());
    }

    int waits() {
        return waiting.size();
    }

    int letters() {
        return letters.size();
    }

    int applied() {
        if (takenOverAt >= 0) {
            return takenOverAt;
        }
        int number = 0;
        while (received.contains(number + 1)) {
            number++;
        }
        return number;
    }

    private static void argument(boolean good) {
        if (!good) {
            throw new IllegalArgumentException();
        }
    }

    private static void state(boolean good) {
        if (!good) {
            throw new IllegalStateException();
        }
    }

    private boolean exists(int file, int record) {
        return file >= 0 && file < sizes.size() && record >= 0 && record < sizes.get(file);
    }

    private boolean isKept(int number) {
        return number > 8 * dropped && number <= last();
    }

    private boolean keptBetween(int file, int behind, int upTo) {
        for (Entry e : entries) {
            boolean isBetween = e.number() > behind && e.number() <= upTo;
            if (isBetween && e.kind() == CHANGE && e.file() == file && !isKept(e.number())) {
                return false;
            }
        }
        return true;
    }

    private int limitOfRoom() {
        return Math.min(120, 8 * (dropped + 6));
    }

    private int reserve() {
        int reserve = 0;
        for (int job = 0; job <= 2; job++) {
            int changes = openOf(job, last()).size();
            reserve += changes == 0 ? 0 : changes + 1;
        }
        return reserve;
    }

    private int valueAt(int file, int record, int number) {
        int value = 0;
        for (Entry e : entries) {
            if (e.number() <= number && e.isChangeOf(file, record)) {
                value = e.after();
            }
        }
        return value;
    }

    /** The changes of a job's cycle that was open just after a number, the oldest first. */
    private List<Entry> openOf(int job, int number) {
        List<Entry> open = new ArrayList<>();
        for (Entry e : entries) {
            if (e.number() <= number && e.job() == job) {
                if (e.kind() == CHANGE) {
                    open.add(e);
                } else {
                    open.clear();
                }
            }
        }
        return open;
    }

    private List<Entry> openAt(int number) {
        List<Entry> open = new ArrayList<>();
        for (int job = 0; job <= HOUSE; job++) {
            open.addAll(openOf(job, number));
        }
        return open;
    }

    private void write(int job, int file, int record, int value) {
        entries.add(new Entry(last() + 1, CHANGE, job, file, record, valueAt(file, record, last()), value));
        if (waiting.size() == 24) {
            land(1);
        }
        waiting.add(new Write(file, record, value));
        if (job != HOUSE) {
            numbers[file] = -1;
        }
    }

    private void close(int kind, int job) {
        entries.add(new Entry(last() + 1, kind, job, -1, -1, 0, 0));
    }

    private void rollBack(int job) {
        List<Entry> open = openOf(job, last());
        for (int i = open.size() - 1; i >= 0; i--) {
            write(job, open.get(i).file(), open.get(i).record(), open.get(i).before());
        }
        close(ROLLBACK, job);
    }

    private void land(int n) {
        for (int i = 0; i < n; i++) {
            Write write = waiting.remove(0);
            landed[write.file()][write.record()] = write.value();
        }
    }

    /** A file is what it was just after a number, whichever way it was brought there. */
    private int bring(int file, int number) {
        List<Write> needed = new ArrayList<>();
        for (int record = 0; record < sizes.get(file); record++) {
            int wanted = valueAt(file, record, number);
            if (wanted != valueAt(file, record, last())) {
                needed.add(new Write(file, record, wanted));
            }
        }
        int k = needed.size();
        state(k == 0 || limitOfRoom() - (last() + k + 1) >= reserve());
        for (Write write : needed) {
            write(HOUSE, file, write.record(), write.value());
        }
        if (k > 0) {
            close(COMMIT, HOUSE);
        }
        numbers[file] = number;
        return k;
    }
}
