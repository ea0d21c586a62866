import java.util.function.Supplier;

/** The edges of copies: promises 7 (save) and 8 (restore). */
public final class CopiesEdgesTest {
    private static final int[] NO_SLOTS = {-1, 4, 5, Integer.MIN_VALUE, Integer.MAX_VALUE};

    private final Checks checks = new Checks();
    private final Refusals refusals = new Refusals(checks);

    public static void main(String[] args) {
        CopiesEdgesTest test = new CopiesEdgesTest();
        test.slotsAreZeroToThree();
        test.noSuchFile();
        test.noSaveWithAnOpenCycle();
        test.saveAtZero();
        test.inPlaceOfAnother();
        test.aRefusedSaveLeavesTheSlot();
        test.nothingWasSaved();
        test.noRestoreWithAnOpenCycle();
        test.noRecordIsChanged();
        test.allRecordsAreChanged();
        test.theSlotKeepsItsCopy();
        test.theNumberOfACopy();
        test.checks.finish();
    }

    /** Copies of file 0 in slots 0 and 3 are of 2 and 4 entries; file 1 was never saved. */
    private static JournalHouse withCopies() {
        JournalHouse house = Houses.withFiles(2, 1);
        Houses.commitAll(house, 1);
        house.save(0, 0);
        Houses.commitAll(house, 2);
        house.save(0, 3);
        Houses.commitAll(house, 3);
        return house;
    }

    /** "Saves a copy in slot 0 .. 3"; "IllegalArgumentException when there is no such file or slot" */
    private void slotsAreZeroToThree() {
        for (int slot : NO_SLOTS) {
            refusals.wrongArgument("save in slot " + slot, CopiesEdgesTest::withCopies, house -> house.save(0, slot));
            refusals.wrongArgument("restore of slot " + slot, CopiesEdgesTest::withCopies,
                    house -> house.restore(slot));
        }
        for (int slot = 0; slot <= 3; slot++) {
            JournalHouse house = withCopies();
            checks.same("save in slot " + slot, house.save(1, slot), 6);
            checks.same("restore of slot " + slot, house.restore(slot), 0);
            checks.same("number", house.number(1), 6);
        }
        checks.same("restore of slot 0", withCopies().restore(0), 1);
        checks.same("restore of slot 3", withCopies().restore(3), 1);
    }

    private void noSuchFile() {
        for (int file : new int[] {-1, 2, 3, Integer.MIN_VALUE, Integer.MAX_VALUE}) {
            refusals.wrongArgument("save of file " + file, CopiesEdgesTest::withCopies, house -> house.save(file, 0));
        }
        checks.same("save of the last file", withCopies().save(1, 0), 6);
    }

    /** "IllegalStateException when a cycle on it is open" */
    private void noSaveWithAnOpenCycle() {
        for (int job = 0; job <= 2; job++) {
            int by = job;
            Supplier<JournalHouse> open = () -> withCycle(by);
            refusals.wrongState("save with a cycle of job " + job, open, house -> house.save(0, 0));
            refusals.wrongArgument("save in no slot", open, house -> house.save(0, 4));
            checks.same("save of the other file", open.get().save(1, 0), 7);
            JournalHouse house = open.get();
            house.end(job, job == 1);
            checks.same("save behind the end", house.save(0, 0), house.last());
        }
    }

    private static JournalHouse withCycle(int job) {
        JournalHouse house = withCopies();
        house.change(job, 0, 1, 7);
        return house;
    }

    private void saveAtZero() {
        JournalHouse house = Houses.withFiles(1);
        checks.same("save", house.save(0, 0), 0);
        Houses.commitAll(house, 1);
        checks.same("restore", house.restore(0), 1);
        checks.same("number", house.number(0), 0);
        checks.same("get", house.get(0, 0), 0);
    }

    /** "(in place of one that it has)" */
    private void inPlaceOfAnother() {
        JournalHouse house = withCopies();
        checks.same("save over the copy of 2", house.save(0, 0), 6);
        Houses.commitAll(house, 4);
        house.restore(0);
        checks.same("get", house.get(0, 0), 3);
        checks.same("number", house.number(0), 6);
        house.save(1, 3);
        checks.same("restore of what is another file's now", house.restore(3), 0);
        checks.same("file 0 is left alone", house.get(0, 0), 3);
        checks.same("number of file 1", house.number(1), house.last());
    }

    private void aRefusedSaveLeavesTheSlot() {
        JournalHouse house = withCycle(0);
        checks.wrongState("save", () -> house.save(0, 0));
        house.end(0, true);
        house.restore(0);
        checks.same("what was saved at 2", house.get(0, 0), 1);
        checks.same("number", house.number(0), 2);
    }

    /** "IllegalStateException when nothing was saved there" */
    private void nothingWasSaved() {
        for (int slot = 1; slot <= 2; slot++) {
            int empty = slot;
            refusals.wrongState("restore of slot " + slot, CopiesEdgesTest::withCopies, house -> house.restore(empty));
        }
        for (int slot = 0; slot <= 3; slot++) {
            int empty = slot;
            refusals.wrongState("restore of slot " + slot, () -> Houses.withFiles(1), house -> house.restore(empty));
            refusals.wrongState("restore of slot " + slot, JournalHouse::new, house -> house.restore(empty));
        }
    }

    /** "a cycle on the file is open" */
    private void noRestoreWithAnOpenCycle() {
        for (int job = 0; job <= 2; job++) {
            int by = job;
            refusals.wrongState("restore with a cycle of job " + job, () -> withCycle(by), house -> house.restore(0));
            JournalHouse house = withCycle(job);
            house.end(job, false);
            checks.same("restore behind the end", house.restore(0), 1);
            JournalHouse other = withCopies();
            other.change(job, 1, 0, 7);
            checks.same("restore with a cycle on the other file", other.restore(0), 1);
        }
    }

    /** "how many records were changed (perhaps none: then there is no COMMIT)" */
    private void noRecordIsChanged() {
        JournalHouse house = withCopies();
        Houses.commitAll(house, 1);
        checks.same("restore", house.restore(0), 0);
        checks.same("no entry", house.last(), 8);
        checks.same("but the number", house.number(0), 2);
        checks.same("no write", house.cut(0), 4);
    }

    private void allRecordsAreChanged() {
        JournalHouse house = Houses.withFiles(8);
        house.save(0, 0);
        for (int record = 7; record >= 0; record--) {
            house.change(0, 0, record, 1 + record);
        }
        house.end(0, true);
        checks.same("restore", house.restore(0), 8);
        checks.same("eight changes and a COMMIT", house.last(), 18);
        for (int record = 0; record < 8; record++) {
            Houses.dueEntry(checks, house, 10 + record, 1, 3, 0, record, 1 + record, 0);
        }
        Houses.dueEntry(checks, house, 18, 2, 3);
    }

    /** "(which keeps its copy)" */
    private void theSlotKeepsItsCopy() {
        JournalHouse house = withCopies();
        for (int value = 4; value <= 6; value++) {
            checks.same("restore", house.restore(0), 1);
            checks.same("get", house.get(0, 0), 1);
            checks.same("number", house.number(0), 2);
            Houses.commitAll(house, value);
        }
        house.remove(0, 0);
        checks.same("restore", house.restore(0), 1);
        house.apply(0, 4);
        checks.same("restore", house.restore(0), 1);
        checks.same("get", house.get(0, 0), 1);
    }

    /** "(of a copy the last number when it was saved)" */
    private void theNumberOfACopy() {
        JournalHouse house = withCopies();
        house.restore(0);
        checks.same("number", house.number(0), 2);
        checks.same("save of a file with a number", house.save(0, 1), 8);
        Houses.commitAll(house, 9);
        house.restore(1);
        checks.same("number", house.number(0), 8);
        checks.same("get", house.get(0, 0), 1);
        house.change(1, 1, 0, 5);
        checks.same("a save amid a cycle on another file", house.save(0, 2), 13);
        house.restore(2);
        checks.same("number", house.number(0), 13);
    }
}
