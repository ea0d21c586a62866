import java.util.function.Supplier;

/** The edges of files, records and jobs: the first lines of "Terms", and promises 1 to 6 and 21. */
public final class FilesEdgesTest {
    private static final int[] FAR = {Integer.MIN_VALUE, Integer.MIN_VALUE + 1, Integer.MAX_VALUE};

    private final Checks checks = new Checks();
    private final Refusals refusals = new Refusals(checks);

    public static void main(String[] args) {
        FilesEdgesTest test = new FilesEdgesTest();
        test.aNewObjectIsEmpty();
        test.aFileHasOneToEightRecords();
        test.thereAreThreeFiles();
        test.theNumberOfRecordsComesFirst();
        test.recordsAreZeroAtFirst();
        test.recordsAreInts();
        test.jobsAreZeroToTwo();
        test.noSuchFile();
        test.noSuchRecord();
        test.readingNowhere();
        test.theSameValueIsWritten();
        test.the512thCall();
        test.checks.finish();
    }

    /** "No files, no entries, nothing saved, an empty link; it is up." */
    private void aNewObjectIsEmpty() {
        Supplier<JournalHouse> state = JournalHouse::new;
        for (int file = 0; file <= 2; file++) {
            checks.same("get", state.get().get(file, 0), JournalHouse.NONE);
        }
        checks.same("last", state.get().last(), 0);
        for (int slot = 0; slot <= 3; slot++) {
            int which = slot;
            refusals.wrongState("restore of slot " + slot, state, house -> house.restore(which));
        }
        for (int action = 0; action <= 2; action++) {
            int which = action;
            refusals.wrongArgument("link(0, " + action + ")", state, house -> house.link(0, which));
        }
        refusals.wrongArgument("a letter of no entry", state, house -> house.link(1, 3));
        refusals.wrongState("start", state, JournalHouse::start);
        refusals.wrongState("drop", state, JournalHouse::drop);
        refusals.wrongArgument("cut(1)", state, house -> house.cut(1));
        checks.same("cut(0)", state.get().cut(0), 0);
        checks.same("the first file", state.get().file(1), 0);
    }

    /** "IllegalArgumentException when records is not 1 .. 8" */
    private void aFileHasOneToEightRecords() {
        Supplier<JournalHouse> state = () -> Houses.withFiles(3);
        for (int records : new int[] {0, 9, -1, 10}) {
            refusals.wrongArgument("file(" + records + ")", state, house -> house.file(records));
        }
        for (int records : FAR) {
            refusals.wrongArgument("file(" + records + ")", state, house -> house.file(records));
        }
        for (int records = 1; records <= 8; records++) {
            JournalHouse house = state.get();
            checks.same("file(" + records + ")", house.file(records), 1);
            checks.same("its last record", house.get(1, records - 1), 0);
            checks.same("none behind it", house.get(1, records), JournalHouse.NONE);
        }
    }

    /** "FILES are 0 .. 2"; "IllegalStateException when there are three." */
    private void thereAreThreeFiles() {
        JournalHouse house = new JournalHouse();
        for (int file = 0; file <= 2; file++) {
            checks.same("file " + file, house.file(8), file);
        }
        refusals.wrongState("a fourth of 1", () -> Houses.withFiles(8, 8, 8), full -> full.file(1));
        refusals.wrongState("a fourth of 8", () -> Houses.withFiles(1, 1, 1), full -> full.file(8));
    }

    private void theNumberOfRecordsComesFirst() {
        Supplier<JournalHouse> full = () -> Houses.withFiles(1, 1, 1);
        refusals.wrongArgument("a fourth of 0", full, house -> house.file(0));
        refusals.wrongArgument("a fourth of 9", full, house -> house.file(9));
    }

    /** "ints that are 0 at first" */
    private void recordsAreZeroAtFirst() {
        JournalHouse house = Houses.withFiles(8, 8, 8);
        for (int at = 0; at < 24; at++) {
            checks.same("get", house.get(at / 8, at % 8), 0);
            checks.same("disk", house.disk(at / 8, at % 8), 0);
            checks.same("remote", house.remote(at / 8, at % 8), 0);
        }
        checks.same("no record was written", house.cut(0), 0);
    }

    /** "ints": the greatest and the smallest go through every way that a record can go. */
    private void recordsAreInts() {
        for (int value : new int[] {Integer.MAX_VALUE, Integer.MIN_VALUE, -1, 1}) {
            JournalHouse house = Houses.withFiles(1);
            Houses.commitAll(house, value);
            checks.same("get", house.get(0, 0), value);
            checks.same("what came", house.entry(1, 5), value);
            house.save(0, 0);
            Houses.commitAll(house, -value - 1);
            checks.same("what was before", house.entry(3, 4), value);
            house.restore(0);
            checks.same("restored", house.get(0, 0), value);
            house.remove(0, 0);
            checks.same("removed", house.get(0, 0), 0);
            house.apply(0, 2);
            checks.same("applied", house.get(0, 0), value);
            house.cut(0);
            house.start();
            checks.same("started", house.get(0, 0), value);
            checks.same("on the disk", house.disk(0, 0), value);
            Houses.deliver(house, 1, 2);
            checks.same("remote", house.remote(0, 0), value);
        }
    }

    /** "JOBS are 0 .. 2."; "IllegalArgumentException when there is no such job" */
    private void jobsAreZeroToTwo() {
        Supplier<JournalHouse> state = this::withOpenCycles;
        for (int job = 0; job <= 2; job++) {
            checks.same("change by job " + job, state.get().change(job, 0, job, 9), 8);
            checks.same("end of job " + job, state.get().end(job, true), 8);
        }
        for (int job : new int[] {-1, 3, 4, FAR[0], FAR[1], FAR[2]}) {
            refusals.wrongArgument("change by job " + job, state, house -> house.change(job, 0, 0, 9));
            refusals.wrongArgument("commit of job " + job, state, house -> house.end(job, true));
            refusals.wrongArgument("rollback of job " + job, state, house -> house.end(job, false));
        }
    }

    /** The house's own job, 3, has written here, and is still no job of a caller. */
    private JournalHouse withOpenCycles() {
        JournalHouse house = Houses.withFiles(3, 8);
        Houses.commitAll(house, 1);
        house.remove(0, 0);
        for (int job = 0; job <= 2; job++) {
            house.change(job, 0, job, 5 + job);
        }
        return house;
    }

    /** "IllegalArgumentException when there is no such ... file": the last one that there is, and the next. */
    private void noSuchFile() {
        for (int files = 0; files <= 3; files++) {
            int count = files;
            Supplier<JournalHouse> state = () -> Houses.withFiles(new int[][] {{}, {2}, {2, 2}, {2, 2, 2}}[count]);
            if (files > 0) {
                checks.same("change", state.get().change(0, files - 1, 0, 1), 1);
                checks.same("save", state.get().save(files - 1, 0), 0);
            }
            for (int file : new int[] {-1, files, files + 1, FAR[0], FAR[1], FAR[2]}) {
                String of = " of file " + file + " of " + files;
                refusals.wrongArgument("change" + of, state, house -> house.change(0, file, 0, 1));
                refusals.wrongArgument("save" + of, state, house -> house.save(file, 0));
                refusals.wrongArgument("apply" + of, state, house -> house.apply(file, 0));
                refusals.wrongArgument("remove" + of, state, house -> house.remove(file, 0));
                checks.same("number" + of, state.get().number(file), -1);
                checks.no("boundary" + of, state.get().boundary(file, 0));
            }
        }
    }

    /** "IllegalArgumentException when there is no such ... record": each file has its own last one. */
    private void noSuchRecord() {
        int[] sizes = {2, 8, 1};
        for (int which = 0; which <= 2; which++) {
            int file = which;
            Supplier<JournalHouse> state = () -> Houses.withFiles(sizes);
            checks.same("the last record", state.get().change(0, file, sizes[file] - 1, 1), 1);
            for (int record : new int[] {-1, sizes[file], 8, FAR[0], FAR[1], FAR[2]}) {
                refusals.wrongArgument("change of record " + record + " of file " + file, state,
                        house -> house.change(0, file, record, 1));
            }
        }
    }

    /** "NONE when there is none such" of get, disk and remote, the house up or down. */
    private void readingNowhere() {
        int[][] nowhere = {{-1, 0}, {2, 0}, {3, 0}, {0, -1}, {0, 2}, {1, 8}, {0, 8}, {1, -8}, {2, -8},
                {FAR[0], 0}, {FAR[2], 0}, {0, FAR[0]}, {0, FAR[2]}, {-1, 8}, {-1, 9}};
        JournalHouse house = Houses.withFiles(2, 8);
        for (boolean up : new boolean[] {true, false}) {
            for (int[] at : nowhere) {
                String where = "(" + at[0] + ", " + at[1] + ")";
                checks.same("get" + where, house.get(at[0], at[1]), JournalHouse.NONE);
                checks.same("disk" + where, house.disk(at[0], at[1]), JournalHouse.NONE);
                checks.same("remote" + where, house.remote(at[0], at[1]), JournalHouse.NONE);
            }
            checks.same("get of the last record", house.get(1, 7), up ? 0 : JournalHouse.NONE);
            checks.same("disk of the last record", house.disk(1, 7), 0);
            checks.same("remote of the last record", house.remote(1, 7), 0);
            if (up) {
                house.cut(0);
            }
        }
    }

    /** "(It is written also if the value is the same.)" */
    private void theSameValueIsWritten() {
        JournalHouse house = Houses.withFiles(1);
        house.save(0, 0);
        house.restore(0);
        checks.same("number", house.number(0), 0);
        checks.same("change of 0 to 0", house.change(0, 0, 0, 0), 1);
        checks.same("before", house.entry(1, 4), 0);
        checks.same("after", house.entry(1, 5), 0);
        checks.same("the file is live", house.number(0), -1);
        checks.wrongState("the record is locked", () -> house.change(1, 0, 0, 0));
        checks.same("its write waits", house.cut(0), 1);
    }

    /** "An object is used for at most 512 calls": the last one still counts. */
    private void the512thCall() {
        JournalHouse house = new JournalHouse();
        house.file(1);
        for (int call = 2; call <= 509; call++) {
            checks.same("call " + call, house.get(0, 0), 0);
        }
        checks.same("call 510", house.change(0, 0, 0, 5), 1);
        checks.wrongState("call 511", () -> house.change(1, 0, 0, 6));
        checks.same("call 512", house.get(0, 0), 5);
    }
}
