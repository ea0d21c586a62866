/** Files of records behind a journal, with a remote house that can take over; README.md tells how to use it. */
public final class JournalHouse {
    public static final long NONE = 1099511627776L;

    private static final int FILES = 3;
    private static final int RECORDS = 8;
    private static final int CELLS = FILES * RECORDS;
    private static final int JOBS = 3;
    private static final int HOUSE_JOB = 3;
    private static final int SLOTS = 4;
    private static final int ENTRIES = 120;
    private static final int RECEIVER_ENTRIES = 8;
    private static final int RECEIVERS = 6;
    private static final int WAITING = 24;
    private static final int LETTERS = 16;

    private static final int CHANGE = 1;
    private static final int COMMIT = 2;
    private static final int ROLLBACK = 3;

    private static final int COMES = 0;
    private static final int IS_LOST = 1;
    private static final int IS_DOUBLED = 2;
    private static final int IS_SENT = 3;

    private static final int LIVE = -1;

    private final Journal journal;
    private final Store store;
    private final Copies copies;
    private final Letters letters;
    private final RemoteHouse remoteHouse;
    private final int[] sizes;
    private final int[] numbers;
    private final int[] limits;
    private final int[] wanted;
    private int fileCount;
    private int acknowledged;
    private boolean up;

    public JournalHouse() {
        journal = new Journal();
        store = new Store();
        copies = new Copies();
        letters = new Letters();
        remoteHouse = new RemoteHouse();
        sizes = new int[FILES];
        numbers = new int[FILES];
        limits = new int[FILES];
        wanted = new int[RECORDS];
        up = true;
    }

    public int file(int records) throws IllegalArgumentException, IllegalStateException {
        if (records < 1 || records > RECORDS) {
            throw new IllegalArgumentException();
        }
        if (!up || fileCount == FILES) {
            throw new IllegalStateException();
        }
        int made = fileCount;
        sizes[made] = records;
        numbers[made] = LIVE;
        fileCount++;
        return made;
    }

    public int change(int job, int file, int record, int value)
            throws IllegalArgumentException, IllegalStateException {
        if (!isJob(job) || !isRecord(file, record)) {
            throw new IllegalArgumentException();
        }
        int cell = cellOf(file, record);
        if (!up || journal.isLockedByAnother(job, cell) || journal.refusesChangeBy(job)) {
            throw new IllegalStateException();
        }
        writeChange(job, cell, value);
        return journal.newest;
    }

    public long get(int file, int record) {
        return up && isRecord(file, record) ? store.records[cellOf(file, record)] : NONE;
    }

    public long disk(int file, int record) {
        return isRecord(file, record) ? store.onDisk[cellOf(file, record)] : NONE;
    }

    public int end(int job, boolean commit) throws IllegalArgumentException, IllegalStateException {
        if (!isJob(job)) {
            throw new IllegalArgumentException();
        }
        if (!up || !journal.isCycleOpen(job)) {
            throw new IllegalStateException();
        }
        if (commit) {
            journal.addEnd(COMMIT, job);
        } else {
            rollBack(job);
        }
        return journal.newest;
    }

    public int save(int file, int slot) throws IllegalArgumentException, IllegalStateException {
        if (!isFile(file) || !isSlot(slot)) {
            throw new IllegalArgumentException();
        }
        if (!up || journal.isCycleOn(file)) {
            throw new IllegalStateException();
        }
        copies.keep(slot, file, journal.newest, store.records);
        return journal.newest;
    }

    public int restore(int slot) throws IllegalArgumentException, IllegalStateException {
        if (!isSlot(slot)) {
            throw new IllegalArgumentException();
        }
        if (!up || !copies.filled[slot] || journal.isCycleOn(copies.files[slot])) {
            throw new IllegalStateException();
        }
        int file = copies.files[slot];
        int newestBefore = journal.newest;
        System.arraycopy(copies.records, slot * RECORDS, wanted, 0, RECORDS);
        int changed = bringToWanted(file, copies.numbers[slot]);
        limits[file] = newestBefore + 1;
        return changed;
    }

    public int apply(int file, int number) throws IllegalArgumentException, IllegalStateException {
        if (!isFile(file)) {
            throw new IllegalArgumentException();
        }
        if (!up || !canApply(file, number)) {
            throw new IllegalStateException();
        }
        wantWhatIs(file);
        for (int n = numbers[file] + 1; n <= number; n++) {
            if (journal.isChangeOf(file, n)) {
                wanted[recordOf(journal.cells[n])] = journal.afters[n];
            }
        }
        return bringToWanted(file, number);
    }

    public int remove(int file, int number) throws IllegalArgumentException, IllegalStateException {
        if (!isFile(file) || number < 0) {
            throw new IllegalArgumentException();
        }
        if (!up || !canRemove(file, number)) {
            throw new IllegalStateException();
        }
        boolean wasLive = numbers[file] == LIVE;
        int newestBefore = journal.newest;
        wantWhatIs(file);
        for (int n = numberToRemoveFrom(file); n > number; n--) {
            if (journal.isChangeOf(file, n)) {
                wanted[recordOf(journal.cells[n])] = journal.befores[n];
            }
        }
        int changed = bringToWanted(file, number);
        if (wasLive) {
            limits[file] = newestBefore + 1;
        }
        return changed;
    }

    public int number(int file) {
        return isFile(file) ? numbers[file] : LIVE;
    }

    public int last() {
        return journal.newest;
    }

    public boolean boundary(int file, int number) {
        return isFile(file) && journal.isBoundary(file, number);
    }

    public long entry(int number, int what) {
        if (!journal.isKept(number)) {
            return NONE;
        }
        switch (what) {
            case 0:
                return journal.kinds[number];
            case 1:
                return journal.jobs[number];
            default:
                return journal.kinds[number] == CHANGE ? partOfChange(number, what) : NONE;
        }
    }

    public int drop() throws IllegalStateException {
        if (!up || !journal.canDropOldest() || acknowledged < journal.endOfOldest()) {
            throw new IllegalStateException();
        }
        store.landOldest(store.waitingCount);
        journal.dropped++;
        return journal.dropped;
    }

    public int cut(int n) throws IllegalArgumentException, IllegalStateException {
        if (n < 0 || n > store.waitingCount) {
            throw new IllegalArgumentException();
        }
        if (!up) {
            throw new IllegalStateException();
        }
        store.landOldest(n);
        up = false;
        return store.loseWaiting();
    }

    public int start() throws IllegalStateException {
        if (up) {
            throw new IllegalStateException();
        }
        store.readDisk();
        // Oldest first, so that the newest kept change of a record is the one that stays.
        for (int n = journal.startOfOldest(); n <= journal.newest; n++) {
            if (journal.kinds[n] == CHANGE) {
                store.records[journal.cells[n]] = journal.afters[n];
            }
        }
        store.writeDisk();
        up = true;
        for (int job = 0; job < JOBS; job++) {
            if (journal.isCycleOpen(job)) {
                rollBack(job);
            }
        }
        return journal.newest;
    }

    public int link(int k, int action) throws IllegalArgumentException, IllegalStateException {
        if (action < COMES || action > IS_SENT) {
            throw new IllegalArgumentException();
        }
        if (action == IS_SENT ? !journal.isKept(k) : !letters.isLetter(k)) {
            throw new IllegalArgumentException();
        }
        boolean isOneMore = action == IS_SENT || action == IS_DOUBLED;
        if ((action == IS_SENT && !up) || (isOneMore && letters.count == LETTERS)) {
            throw new IllegalStateException();
        }
        switch (action) {
            case COMES:
                remoteHouse.receive(letters.take(k), journal);
                break;
            case IS_LOST:
                letters.take(k);
                break;
            case IS_DOUBLED:
                letters.put(letters.entries[k]);
                break;
            default:
                letters.put(k);
                break;
        }
        return letters.count;
    }

    public int ack() throws IllegalStateException {
        if (!up) {
            throw new IllegalStateException();
        }
        acknowledged = remoteHouse.applied;
        return acknowledged;
    }

    public int takeOver() {
        remoteHouse.undoOpenCycles(journal);
        return remoteHouse.applied;
    }

    public long remote(int file, int record) {
        return isRecord(file, record) ? remoteHouse.records[cellOf(file, record)] : NONE;
    }

    private boolean isJob(int job) {
        return job >= 0 && job < JOBS;
    }

    private boolean isFile(int file) {
        return file >= 0 && file < fileCount;
    }

    private boolean isRecord(int file, int record) {
        return isFile(file) && record >= 0 && record < sizes[file];
    }

    private boolean isSlot(int slot) {
        return slot >= 0 && slot < SLOTS;
    }

    private static int cellOf(int file, int record) {
        return file * RECORDS + record;
    }

    private static int fileOf(int cell) {
        return cell / RECORDS;
    }

    private static int recordOf(int cell) {
        return cell % RECORDS;
    }

    private long partOfChange(int number, int what) {
        switch (what) {
            case 2:
                return fileOf(journal.cells[number]);
            case 3:
                return recordOf(journal.cells[number]);
            case 4:
                return journal.befores[number];
            case 5:
                return journal.afters[number];
            default:
                return NONE;
        }
    }

    private void writeChange(int job, int cell, int value) {
        journal.addChange(job, cell, store.records[cell], value);
        store.write(cell, value);
        if (job != HOUSE_JOB) {
            numbers[fileOf(cell)] = LIVE;
        }
    }

    private void rollBack(int job) {
        int first = journal.began[job];
        for (int n = journal.newest; n >= first; n--) {
            if (journal.kinds[n] == CHANGE && journal.jobs[n] == job) {
                writeChange(job, journal.cells[n], journal.befores[n]);
            }
        }
        journal.addEnd(ROLLBACK, job);
    }

    private boolean canApply(int file, int number) {
        int own = numbers[file];
        return own != LIVE && number > own && number < limits[file]
                && !journal.isCycleOn(file)
                && journal.isBoundary(file, number)
                && journal.keepsChangesOf(file, own, number);
    }

    private boolean canRemove(int file, int number) {
        int own = numberToRemoveFrom(file);
        return number < own
                && !journal.isCycleOn(file)
                && journal.isBoundary(file, number)
                && journal.keepsChangesOf(file, number, own);
    }

    private int numberToRemoveFrom(int file) {
        return numbers[file] == LIVE ? journal.newest : numbers[file];
    }

    private void wantWhatIs(int file) {
        System.arraycopy(store.records, cellOf(file, 0), wanted, 0, RECORDS);
    }

    private int bringToWanted(int file, int number) {
        int changes = countUnwanted(file);
        if (journal.refusesOwnChanges(changes)) {
            throw new IllegalStateException();
        }
        for (int record = 0; record < sizes[file]; record++) {
            int cell = cellOf(file, record);
            if (store.records[cell] != wanted[record]) {
                writeChange(HOUSE_JOB, cell, wanted[record]);
            }
        }
        if (changes > 0) {
            journal.addEnd(COMMIT, HOUSE_JOB);
        }
        numbers[file] = number;
        return changes;
    }

    private int countUnwanted(int file) {
        int count = 0;
        for (int record = 0; record < sizes[file]; record++) {
            if (store.records[cellOf(file, record)] != wanted[record]) {
                count++;
            }
        }
        return count;
    }

    /** The entries, kept or dropped, and the cycles that they make up. */
    private static final class Journal {
        // Dropped entries stay in these rows: the remote house may still have to undo one.
        final int[] kinds = new int[ENTRIES + 1];
        final int[] jobs = new int[ENTRIES + 1];
        final int[] cells = new int[ENTRIES + 1];
        final int[] befores = new int[ENTRIES + 1];
        final int[] afters = new int[ENTRIES + 1];
        /** A bit for each file that a cycle was open on just after the entry. */
        final int[] openFiles = new int[ENTRIES + 1];
        /** The first change of each job's open cycle, 0 if it has none. */
        final int[] began = new int[JOBS + 1];
        final int[] changeCounts = new int[JOBS + 1];
        final int[] cycleFiles = new int[JOBS + 1];
        int newest;
        int dropped;

        void addChange(int job, int cell, int before, int after) {
            newest++;
            kinds[newest] = CHANGE;
            jobs[newest] = job;
            cells[newest] = cell;
            befores[newest] = before;
            afters[newest] = after;
            if (began[job] == 0) {
                began[job] = newest;
            }
            changeCounts[job]++;
            cycleFiles[job] |= 1 << fileOf(cell);
            noteOpenFiles();
        }

        void addEnd(int kind, int job) {
            newest++;
            kinds[newest] = kind;
            jobs[newest] = job;
            began[job] = 0;
            changeCounts[job] = 0;
            cycleFiles[job] = 0;
            noteOpenFiles();
        }

        private void noteOpenFiles() {
            int open = 0;
            for (int job = 0; job <= HOUSE_JOB; job++) {
                open |= cycleFiles[job];
            }
            openFiles[newest] = open;
        }

        boolean isCycleOpen(int job) {
            return began[job] > 0;
        }

        boolean isCycleOn(int file) {
            return !isBoundary(file, newest);
        }

        boolean isBoundary(int file, int number) {
            return number >= 0 && number <= newest && (openFiles[number] >> file & 1) == 0;
        }

        boolean isLockedByAnother(int job, int cell) {
            for (int n = startOfOldest(); n <= newest; n++) {
                if (kinds[n] == CHANGE && cells[n] == cell && jobs[n] != job && isInOpenCycle(n)) {
                    return true;
                }
            }
            return false;
        }

        private boolean isInOpenCycle(int number) {
            int job = jobs[number];
            return isCycleOpen(job) && number >= began[job];
        }

        boolean refusesChangeBy(int job) {
            int moreReserve = isCycleOpen(job) ? 1 : 2;
            return room() - 1 < reserve() + moreReserve;
        }

        boolean refusesOwnChanges(int changes) {
            return changes > 0 && room() - changes - 1 < reserve();
        }

        private int room() {
            return Math.min(ENTRIES, RECEIVER_ENTRIES * (dropped + RECEIVERS)) - newest;
        }

        private int reserve() {
            int reserve = 0;
            for (int job = 0; job < JOBS; job++) {
                if (isCycleOpen(job)) {
                    reserve += changeCounts[job] + 1;
                }
            }
            return reserve;
        }

        int startOfOldest() {
            return dropped * RECEIVER_ENTRIES + 1;
        }

        int endOfOldest() {
            return (dropped + 1) * RECEIVER_ENTRIES;
        }

        boolean isKept(int number) {
            return number >= startOfOldest() && number <= newest;
        }

        boolean canDropOldest() {
            for (int job = 0; job < JOBS; job++) {
                if (isCycleOpen(job) && began[job] <= endOfOldest()) {
                    return false;
                }
            }
            return endOfOldest() <= newest;
        }

        boolean isChangeOf(int file, int number) {
            return kinds[number] == CHANGE && fileOf(cells[number]) == file;
        }

        boolean keepsChangesOf(int file, int behind, int upTo) {
            for (int n = behind + 1; n <= upTo; n++) {
                if (isChangeOf(file, n) && !isKept(n)) {
                    return false;
                }
            }
            return true;
        }
    }

    /** The records in use, those on the disk, and the writes that wait between them. */
    private static final class Store {
        final int[] records = new int[CELLS];
        final int[] onDisk = new int[CELLS];
        private final int[] waitingCells = new int[WAITING];
        private final int[] waitingValues = new int[WAITING];
        int waitingCount;

        void write(int cell, int value) {
            records[cell] = value;
            if (waitingCount == WAITING) {
                landOldest(1);
            }
            waitingCells[waitingCount] = cell;
            waitingValues[waitingCount] = value;
            waitingCount++;
        }

        void landOldest(int count) {
            for (int i = 0; i < count; i++) {
                onDisk[waitingCells[i]] = waitingValues[i];
            }
            waitingCount -= count;
            System.arraycopy(waitingCells, count, waitingCells, 0, waitingCount);
            System.arraycopy(waitingValues, count, waitingValues, 0, waitingCount);
        }

        int loseWaiting() {
            int lost = waitingCount;
            waitingCount = 0;
            return lost;
        }

        void readDisk() {
            System.arraycopy(onDisk, 0, records, 0, CELLS);
        }

        void writeDisk() {
            System.arraycopy(records, 0, onDisk, 0, CELLS);
        }
    }

    /** What was saved, a slot for each copy. */
    private static final class Copies {
        final boolean[] filled = new boolean[SLOTS];
        final int[] files = new int[SLOTS];
        final int[] numbers = new int[SLOTS];
        final int[] records = new int[SLOTS * RECORDS];

        void keep(int slot, int file, int number, int[] from) {
            filled[slot] = true;
            files[slot] = file;
            numbers[slot] = number;
            System.arraycopy(from, cellOf(file, 0), records, slot * RECORDS, RECORDS);
        }
    }

    /** The letters on the link, by the numbers of their entries, which never change. */
    private static final class Letters {
        final int[] entries = new int[LETTERS];
        int count;

        boolean isLetter(int k) {
            return k >= 0 && k < count;
        }

        void put(int number) {
            entries[count] = number;
            count++;
        }

        int take(int k) {
            int taken = entries[k];
            count--;
            System.arraycopy(entries, k + 1, entries, k, count - k);
            return taken;
        }
    }

    /** What the entries that came over the link have made of the same files. */
    private static final class RemoteHouse {
        final int[] records = new int[CELLS];
        private final boolean[] received = new boolean[ENTRIES + 1];
        int applied;
        private boolean takenOver;

        void receive(int number, Journal journal) {
            if (takenOver) {
                return;
            }
            received[number] = true;
            while (applied < ENTRIES && received[applied + 1]) {
                applied++;
                if (journal.kinds[applied] == CHANGE) {
                    records[journal.cells[applied]] = journal.afters[applied];
                }
            }
        }

        void undoOpenCycles(Journal journal) {
            if (takenOver) {
                return;
            }
            takenOver = true;
            // Going back, what stands before a job's newest end belongs to a cycle that is over.
            boolean[] isOver = new boolean[JOBS + 1];
            for (int n = applied; n > 0; n--) {
                int job = journal.jobs[n];
                if (journal.kinds[n] != CHANGE) {
                    isOver[job] = true;
                } else if (!isOver[job]) {
                    records[journal.cells[n]] = journal.befores[n];
                }
            }
        }
    }
}
