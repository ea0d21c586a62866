import java.util.function.Supplier;

/** The edges of cycles and locks: "Terms", and promises 3 and 6. */
public final class CyclesEdgesTest {
    private final Checks checks = new Checks();
    private final Refusals refusals = new Refusals(checks);

    public static void main(String[] args) {
        CyclesEdgesTest test = new CyclesEdgesTest();
        test.noCycleBeforeAChange();
        test.noCycleBehindItsEnd();
        test.aRefusedChangeBeginsNone();
        test.theNextChangeBeginsAnother();
        test.onEachFileThatItChanged();
        test.lockedForOtherJobs();
        test.notLockedForItsOwnJob();
        test.onlyThatRecordIsLocked();
        test.notLockedBehindTheEnd();
        test.rollsBackOneChange();
        test.rollsBackTheNewestFirst();
        test.rollsBackOnlyItsOwn();
        test.checks.finish();
    }

    /** "IllegalStateException when it has no open cycle": "a cycle of a job begins with a change". */
    private void noCycleBeforeAChange() {
        for (int which = 0; which <= 2; which++) {
            int job = which;
            Supplier<JournalHouse> state = () -> {
                JournalHouse house = Houses.withFiles(3);
                house.change((job + 1) % 3, 0, 1, 5);
                house.change((job + 2) % 3, 0, 2, 6);
                return house;
            };
            refusals.wrongState("commit of job " + job, state, house -> house.end(job, true));
            refusals.wrongState("rollback of job " + job, state, house -> house.end(job, false));
            JournalHouse house = state.get();
            house.change(job, 0, 0, 4);
            checks.same("behind one change", house.end(job, true), 4);
        }
    }

    /** "is OPEN until it has a COMMIT or ROLLBACK" */
    private void noCycleBehindItsEnd() {
        for (boolean first : new boolean[] {true, false}) {
            Supplier<JournalHouse> state = () -> {
                JournalHouse house = Houses.withFiles(1);
                house.change(1, 0, 0, 4);
                house.end(1, first);
                return house;
            };
            refusals.wrongState("commit once more", state, house -> house.end(1, true));
            refusals.wrongState("rollback once more", state, house -> house.end(1, false));
        }
    }

    private void aRefusedChangeBeginsNone() {
        Supplier<JournalHouse> state = () -> {
            JournalHouse house = Houses.withFiles(1);
            house.change(0, 0, 0, 1);
            checks.wrongState("change of a locked record", () -> house.change(1, 0, 0, 2));
            return house;
        };
        refusals.wrongState("commit of job 1", state, house -> house.end(1, true));
        checks.same("commit of job 0", state.get().end(0, true), 2);
    }

    private void theNextChangeBeginsAnother() {
        JournalHouse house = Houses.withFiles(2);
        house.change(0, 0, 0, 1);
        house.end(0, true);
        house.change(0, 0, 1, 2);
        checks.same("rollback of the second cycle", house.end(0, false), 5);
        checks.same("what the first one did stays", house.get(0, 0), 1);
        checks.same("what the second one did", house.get(0, 1), 0);
    }

    /** "It is ON each file that it changed." */
    private void onEachFileThatItChanged() {
        Supplier<JournalHouse> state = () -> {
            JournalHouse house = Houses.withFiles(1, 1, 1);
            house.change(2, 0, 0, 1);
            house.change(2, 2, 0, 1);
            return house;
        };
        refusals.wrongState("save of the first", state, house -> house.save(0, 0));
        refusals.wrongState("save of the last", state, house -> house.save(2, 0));
        checks.same("save of the one between", state.get().save(1, 0), 2);
    }

    /** "IllegalStateException when the record is locked by another job" */
    private void lockedForOtherJobs() {
        for (int owner = 0; owner <= 2; owner++) {
            int locking = owner;
            for (int more = 1; more <= 2; more++) {
                int other = (owner + more) % 3;
                for (int record : new int[] {3, 5}) {
                    refusals.wrongState("job " + other + " where job " + owner + " was",
                            () -> withLock(locking), house -> house.change(other, 1, record, 7));
                }
            }
        }
    }

    /** "(not by its own)" */
    private void notLockedForItsOwnJob() {
        for (int job = 0; job <= 2; job++) {
            JournalHouse house = withLock(job);
            checks.same("job " + job + " once more", house.change(job, 1, 3, 7), 3);
            checks.same("get", house.get(1, 3), 7);
        }
    }

    /** Records 3 and 5 of file 1 are. */
    private void onlyThatRecordIsLocked() {
        for (int at = 0; at < 16; at++) {
            JournalHouse house = withLock(0);
            if (at != 8 + 3 && at != 8 + 5) {
                checks.same("record " + at, house.change(1, at / 8, at % 8, 7), 3);
            }
        }
    }

    private JournalHouse withLock(int job) {
        JournalHouse house = Houses.withFiles(8, 8);
        house.change(job, 1, 3, 5);
        house.change(job, 1, 5, 6);
        return house;
    }

    private void notLockedBehindTheEnd() {
        JournalHouse committed = withLock(0);
        committed.end(0, true);
        checks.same("behind a COMMIT", committed.change(1, 1, 3, 7), 4);
        JournalHouse rolledBack = withLock(0);
        rolledBack.end(0, false);
        checks.same("behind a ROLLBACK", rolledBack.change(1, 1, 3, 7), 6);
        JournalHouse started = withLock(0);
        started.cut(0);
        started.start();
        checks.same("behind a start", started.change(1, 1, 3, 7), 6);
        JournalHouse restored = Houses.withFiles(1);
        restored.save(0, 0);
        Houses.commitAll(restored, 1);
        restored.restore(0);
        checks.same("behind the house's own cycle", restored.change(1, 0, 0, 7), 5);
    }

    private void rollsBackOneChange() {
        JournalHouse house = Houses.withFiles(1);
        house.change(2, 0, 0, 8);
        checks.same("rollback", house.end(2, false), 3);
        Houses.dueEntry(checks, house, 2, 1, 2, 0, 0, 8, 0);
        Houses.dueEntry(checks, house, 3, 3, 2);
    }

    /** "from its newest change to its oldest one a change of the same job, which brings back what was before" */
    private void rollsBackTheNewestFirst() {
        JournalHouse house = Houses.withFiles(2, 1);
        house.change(1, 0, 1, 10);
        house.change(1, 1, 0, 20);
        house.change(1, 0, 1, 10);
        house.change(1, 0, 1, 30);
        checks.same("rollback", house.end(1, false), 9);
        Houses.dueEntry(checks, house, 5, 1, 1, 0, 1, 30, 10);
        Houses.dueEntry(checks, house, 6, 1, 1, 0, 1, 10, 10);
        Houses.dueEntry(checks, house, 7, 1, 1, 1, 0, 20, 0);
        Houses.dueEntry(checks, house, 8, 1, 1, 0, 1, 10, 0);
        Houses.dueEntry(checks, house, 9, 3, 1);
    }

    private void rollsBackOnlyItsOwn() {
        JournalHouse house = Houses.withFiles(3);
        Houses.commit(house, 0, 0, 1);
        house.change(1, 0, 1, 2);
        house.change(0, 0, 0, 3);
        house.change(2, 0, 2, 4);
        checks.same("rollback of job 0", house.end(0, false), 7);
        checks.same("its older cycle stays", house.get(0, 0), 1);
        checks.same("job 1 goes on", house.get(0, 1), 2);
        checks.same("job 2 goes on", house.get(0, 2), 4);
        checks.same("job 1 is still open", house.end(1, true), 8);
        checks.same("job 2 is still open", house.end(2, false), 10);
        checks.same("get", house.get(0, 2), 0);
    }
}
