import java.util.function.Supplier;

/** The edges of record writes, cuts and starts: "Terms", and promises 5, 16 and 17. */
public final class WritesEdgesTest {
    private final Checks checks = new Checks();
    private final Refusals refusals = new Refusals(checks);

    public static void main(String[] args) {
        WritesEdgesTest test = new WritesEdgesTest();
        test.twentyFourWait();
        test.theOldestLandsFirst();
        test.aRollbackWrites();
        test.theHouseWrites();
        test.aStartWrites();
        test.anEndDoesNotWrite();
        test.cutsOfAFullRow();
        test.cutsOfAnEmptyRow();
        test.wrongCuts();
        test.aCutLandsTheOldest();
        test.theHouseIsDown();
        test.aStartBelongsToADownHouse();
        test.asTheNewestKeptChangeCame();
        test.asItIsOnTheDisk();
        test.allIsOnTheDisk();
        test.noneWaits();
        test.openCyclesAreRolledBackByJob();
        test.endedCyclesAreNot();
        test.whatOutlivesACut();
        test.checks.finish();
    }

    /** "it WAITS in a row of at most 24; if there are 24, the oldest of these LANDS on the disk first" */
    private void twentyFourWait() {
        JournalHouse house = withWrites(24);
        for (int at = 0; at < 24; at++) {
            checks.same("none of 24 has landed", house.disk(at / 8, at % 8), 0);
        }
        checks.same("24 wait", house.cut(0), 24);
        JournalHouse more = withWrites(25);
        checks.same("the first of 25 has landed", more.disk(0, 0), 100);
        checks.same("the second has not", more.disk(0, 1), 0);
        checks.same("24 wait", more.cut(0), 24);
    }

    /** Each of the 24 records in turn, and again, with values from 100 on; some cycles are over. */
    private static JournalHouse withWrites(int writes) {
        JournalHouse house = Houses.withFiles(8, 8, 8);
        for (int n = 0; n < writes; n++) {
            house.change(0, n / 8 % 3, n % 8, 100 + n);
            if (n % 8 == 7) {
                house.end(0, true);
            }
        }
        return house;
    }

    private void theOldestLandsFirst() {
        for (int writes = 25; writes <= 32; writes++) {
            JournalHouse house = withWrites(writes);
            int landed = writes - 24;
            for (int at = 0; at < 24; at++) {
                checks.same(writes + " writes, record " + at, house.disk(at / 8, at % 8), at < landed ? 100 + at : 0);
            }
            checks.same("get is ahead", house.get(0, 0), 124);
        }
    }

    /** "by whom ever": a rollback. */
    private void aRollbackWrites() {
        JournalHouse house = Houses.withFiles(1);
        Houses.change(house, 0, 0, 0, 13);
        checks.same("disk", house.disk(0, 0), 0);
        house.end(0, false);
        checks.same("two of 26 have landed", house.disk(0, 0), 2);
        checks.same("24 wait", house.cut(23), 1);
        checks.same("the last but one brought back 1", house.disk(0, 0), 1);
    }

    /** "by whom ever": the house itself. */
    private void theHouseWrites() {
        JournalHouse house = Houses.withFiles(8);
        for (int record = 0; record < 8; record++) {
            house.change(0, 0, record, 10 + record);
        }
        house.end(0, true);
        house.remove(0, 0);
        house.apply(0, 9);
        checks.same("24 have been written", house.disk(0, 0), 0);
        house.remove(0, 0);
        for (int record = 0; record < 8; record++) {
            checks.same("the first eight have landed", house.disk(0, record), 10 + record);
        }
        checks.same("24 wait", house.cut(0), 24);
    }

    /** "then each open cycle ... is rolled back": its changes wait, and land, as all do. */
    private void aStartWrites() {
        JournalHouse house = Houses.withFiles(2);
        Houses.change(house, 0, 0, 0, 23);
        house.cut(0);
        checks.same("start", house.start(), 47);
        checks.same("disk", house.disk(0, 0), 23);
        checks.same("23 wait", house.cut(22), 1);
        checks.same("all but the last have landed", house.disk(0, 0), 1);
    }

    private void anEndDoesNotWrite() {
        JournalHouse house = withWrites(24);
        checks.same("a COMMIT is there", house.entry(house.last(), 0), 2);
        checks.same("no more than 24 were written", house.disk(0, 0), 0);
        house.save(0, 0);
        checks.same("a restore of nothing", house.restore(0), 0);
        checks.same("writes nothing", house.cut(0), 24);
    }

    /** "IllegalArgumentException when n is below 0 or there are not so many." */
    private void cutsOfAFullRow() {
        Supplier<JournalHouse> full = () -> withWrites(30);
        for (int n : new int[] {-1, 25, 26, 30, Integer.MIN_VALUE, Integer.MAX_VALUE}) {
            refusals.wrongArgument("cut(" + n + ") of 24", full, house -> house.cut(n));
        }
        checks.same("cut(0) of 24", full.get().cut(0), 24);
        checks.same("cut(24) of 24", full.get().cut(24), 0);
    }

    private void cutsOfAnEmptyRow() {
        for (int n : new int[] {-1, 1, 24, Integer.MIN_VALUE, Integer.MAX_VALUE}) {
            refusals.wrongArgument("cut(" + n + ") of 0", () -> Houses.withFiles(8), house -> house.cut(n));
        }
        checks.same("cut(0) of 0", Houses.withFiles(8).cut(0), 0);
    }

    private void wrongCuts() {
        for (int writes : new int[] {1, 2, 23}) {
            Supplier<JournalHouse> state = () -> withWrites(writes);
            refusals.wrongArgument("one too many of " + writes, state, house -> house.cut(writes + 1));
            refusals.wrongArgument("-1 of " + writes, state, house -> house.cut(-1));
            checks.same("all of " + writes, state.get().cut(writes), 0);
            checks.same("none of " + writes, state.get().cut(0), writes);
        }
    }

    /** "some of the oldest land, the others are lost" */
    private void aCutLandsTheOldest() {
        for (int n = 0; n <= 10; n++) {
            JournalHouse house = withWrites(10);
            checks.same("lost", house.cut(n), 10 - n);
            for (int at = 0; at < 24; at++) {
                checks.same("cut(" + n + "), record " + at, house.disk(at / 8, at % 8), at < n ? 100 + at : 0);
            }
        }
        JournalHouse twice = Houses.withFiles(1);
        Houses.change(twice, 0, 0, 0, 3);
        twice.cut(2);
        checks.same("of one record the newest that lands stays", twice.disk(0, 0), 2);
    }

    private void theHouseIsDown() {
        JournalHouse house = withWrites(3);
        checks.same("up", house.get(0, 2), 102);
        house.cut(3);
        checks.same("down", house.get(0, 2), JournalHouse.NONE);
        house.start();
        checks.same("up again", house.get(0, 2), 0);
    }

    /** "IllegalStateException when the house is up." */
    private void aStartBelongsToADownHouse() {
        refusals.wrongState("start of a new house", JournalHouse::new, JournalHouse::start);
        refusals.wrongState("start of a house with an open cycle", () -> withWrites(30), JournalHouse::start);
        refusals.wrongState("a second start", () -> {
            JournalHouse house = withWrites(30);
            house.cut(3);
            house.start();
            return house;
        }, JournalHouse::start);
        JournalHouse house = new JournalHouse();
        house.cut(0);
        checks.same("start of a house without files", house.start(), 0);
    }

    /** "each record is as the newest kept change of it came", whether it has landed or not. */
    private void asTheNewestKeptChangeCame() {
        for (int n = 0; n <= 4; n++) {
            JournalHouse house = Houses.withFiles(2, 1);
            Houses.commit(house, 0, 0, 1);
            Houses.commit(house, 0, 1, 2);
            Houses.commit(house, 0, 0, 3);
            Houses.commit(house, 1, 0, 4);
            house.cut(n);
            checks.same("start", house.start(), 8);
            checks.same("cut(" + n + "), the newest", house.get(0, 0), 3);
            checks.same("cut(" + n + "), the only one", house.get(0, 1), 2);
            checks.same("cut(" + n + "), of the other file", house.get(1, 0), 4);
        }
    }

    /** "or as it is on the disk, if there is none": no change of it, or none that is kept. */
    private void asItIsOnTheDisk() {
        JournalHouse house = Houses.withFiles(3);
        Houses.commit(house, 0, 0, 1);
        Houses.commit(house, 0, 1, 2);
        Houses.commit(house, 0, 0, 3);
        Houses.commit(house, 0, 0, 4);
        Houses.commit(house, 0, 0, 5);
        Houses.dropReceiver(house, 0);
        Houses.commit(house, 0, 0, 6);
        house.cut(0);
        checks.same("disk while down", house.disk(0, 0), 5);
        house.start();
        checks.same("its newest change is kept", house.get(0, 0), 6);
        checks.same("its newest change is dropped", house.get(0, 1), 2);
        checks.same("it had no change", house.get(0, 2), 0);
    }

    /** "all these are on the disk" */
    private void allIsOnTheDisk() {
        JournalHouse house = withWrites(30);
        house.cut(0);
        checks.same("before", house.disk(0, 7), 0);
        house.start();
        for (int at = 0; at < 24; at++) {
            checks.same("record " + at, house.disk(at / 8, at % 8), at < 6 ? 124 + at : 100 + at);
        }
    }

    /** "none waits": only what the rollbacks write then. */
    private void noneWaits() {
        Supplier<JournalHouse> started = () -> {
            JournalHouse house = withWrites(24);
            house.cut(4);
            house.start();
            return house;
        };
        checks.same("none", started.get().cut(0), 0);
        refusals.wrongArgument("one", started, house -> house.cut(1));
        Supplier<JournalHouse> rolledBack = () -> {
            JournalHouse house = withWrites(27);
            house.cut(4);
            house.start();
            return house;
        };
        checks.same("three", rolledBack.get().cut(3), 0);
        refusals.wrongArgument("four", rolledBack, house -> house.cut(4));
    }

    /** "then each open cycle, by its job, is rolled back" */
    private void openCyclesAreRolledBackByJob() {
        JournalHouse house = Houses.withFiles(3);
        house.change(2, 0, 2, 30);
        house.change(1, 0, 1, 20);
        house.change(0, 0, 0, 10);
        house.change(2, 0, 2, 31);
        house.cut(0);
        checks.same("start", house.start(), 11);
        Houses.dueEntry(checks, house, 5, 1, 0, 0, 0, 10, 0);
        Houses.dueEntry(checks, house, 6, 3, 0);
        Houses.dueEntry(checks, house, 7, 1, 1, 0, 1, 20, 0);
        Houses.dueEntry(checks, house, 8, 3, 1);
        Houses.dueEntry(checks, house, 9, 1, 2, 0, 2, 31, 30);
        Houses.dueEntry(checks, house, 10, 1, 2, 0, 2, 30, 0);
        Houses.dueEntry(checks, house, 11, 3, 2);
        for (int job = 0; job <= 2; job++) {
            int by = job;
            checks.same("record of job " + job, house.get(0, job), 0);
            checks.wrongState("job " + job + " has no cycle", () -> house.end(by, true));
        }
    }

    private void endedCyclesAreNot() {
        for (int open = 0; open <= 2; open++) {
            JournalHouse house = Houses.withFiles(3);
            for (int job = 0; job <= 2; job++) {
                house.change(job, 0, job, 5);
            }
            house.end((open + 1) % 3, true);
            house.end((open + 2) % 3, false);
            house.cut(0);
            checks.same("start", house.start(), 8);
            checks.same("the open one", house.get(0, open), 0);
            checks.same("the committed one", house.get(0, (open + 1) % 3), 5);
            checks.same("the rolled back one", house.get(0, (open + 2) % 3), 0);
        }
        JournalHouse house = Houses.withFiles(1);
        Houses.commitAll(house, 5);
        house.remove(0, 0);
        house.cut(0);
        checks.same("the house's own cycle was over", house.start(), 4);
        checks.same("get", house.get(0, 0), 0);
    }

    /** "after a power cut all is as the journal says": nothing else is said to go with the power. */
    private void whatOutlivesACut() {
        JournalHouse house = Houses.withFiles(1, 1);
        Houses.commitAll(house, 1, 2, 3, 4);
        house.save(0, 2);
        house.remove(0, 4);
        Houses.deliver(house, 1, 8);
        house.ack();
        house.link(9, 3);
        house.cut(0);
        house.start();
        checks.same("a number", house.number(0), 4);
        checks.wrongState("a limit", () -> house.apply(0, 10));
        checks.same("below it", house.apply(0, 6), 1);
        checks.same("a copy", house.restore(2), 1);
        checks.same("what ack told", house.drop(), 1);
        checks.same("a letter", house.link(0, 0), 0);
        checks.same("it came", house.ack(), 9);
        checks.same("a third file", house.file(1), 2);
    }
}
