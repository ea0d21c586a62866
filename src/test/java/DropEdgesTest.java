import java.util.function.Supplier;

/** The edges of receivers: "Terms", and promise 15 (drop), with what promise 14 answers of what is dropped. */
public final class DropEdgesTest {
    private final Checks checks = new Checks();
    private final Refusals refusals = new Refusals(checks);

    public static void main(String[] args) {
        DropEdgesTest test = new DropEdgesTest();
        test.aReceiverOfEightIsFull();
        test.theSecondReceiverIsFull();
        test.aCycleThatBeganInIt();
        test.aCycleThatBeganBehindIt();
        test.aCycleThatBeganInTheSecond();
        test.knownToHaveAppliedAll();
        test.knownByAckAlone();
        test.knownOfTheSecond();
        test.keptNoMore();
        test.allWritesLandFirst();
        test.nothingWaits();
        test.fifteenReceivers();
        test.checks.finish();
    }

    /** "RECEIVERS hold eight entries each: 1 .. 8"; "IllegalStateException when it is not full" */
    private void aReceiverOfEightIsFull() {
        refusals.wrongState("drop of nothing", () -> known(0), JournalHouse::drop);
        refusals.wrongState("drop of one", () -> knownAmidACycle(1), JournalHouse::drop);
        refusals.wrongState("drop of seven", () -> known(7), JournalHouse::drop);
        checks.same("drop of eight", known(8).drop(), 1);
        checks.same("drop of nine", knownAmidACycle(9).drop(), 1);
    }

    /** "9 .. 16, and so on" */
    private void theSecondReceiverIsFull() {
        for (int last : new int[] {8, 10, 15}) {
            refusals.wrongState("a second drop of " + last, () -> dropped(known(last)), JournalHouse::drop);
        }
        checks.same("a second drop of 16", dropped(known(16)).drop(), 2);
        refusals.wrongState("a third drop of 16", () -> dropped(dropped(known(16))), JournalHouse::drop);
        refusals.wrongState("a third drop of 23", () -> dropped(dropped(known(23))), JournalHouse::drop);
        checks.same("a third drop of 24", dropped(dropped(known(24))).drop(), 3);
    }

    /** Entries 1 .. last of file 0, all in ended cycles, which the remote is known to have applied. */
    private static JournalHouse known(int last) {
        JournalHouse house = ended(last);
        Houses.deliver(house, 1, last);
        house.ack();
        return house;
    }

    private static JournalHouse ended(int last) {
        JournalHouse house = Houses.withFiles(2, 1);
        while (house.last() < last) {
            Houses.change(house, 0, 0, 0, last - house.last() == 3 ? 2 : 1);
            house.end(0, true);
        }
        return house;
    }

    private static JournalHouse knownAmidACycle(int last) {
        JournalHouse house = ended(last - 1);
        house.change(1, 0, 1, 4);
        Houses.deliver(house, 1, last);
        house.ack();
        return house;
    }

    private static JournalHouse dropped(JournalHouse house) {
        house.drop();
        return house;
    }

    /** "an open cycle began in it": at its first entry, and at its last one, by each job. */
    private void aCycleThatBeganInIt() {
        for (int job = 0; job <= 2; job++) {
            int by = job;
            for (int before : new int[] {0, 4, 7}) {
                refusals.wrongState("job " + job + " began at " + (before + 1),
                        () -> withCycleBehind(before, by, 12), JournalHouse::drop);
                JournalHouse house = withCycleBehind(before, by, 12);
                house.end(job, before == 4);
                checks.same("its cycle is over", house.drop(), 1);
            }
        }
    }

    private void aCycleThatBeganBehindIt() {
        for (int job = 0; job <= 2; job++) {
            JournalHouse house = withCycleBehind(8, job, 12);
            checks.same("job " + job + " began at 9", house.drop(), 1);
            checks.same("it can be rolled back", house.end(job, false), house.last());
            checks.same("get", house.get(1, 0), 0);
        }
    }

    private void aCycleThatBeganInTheSecond() {
        for (int before : new int[] {8, 15}) {
            refusals.wrongState("a cycle began at " + (before + 1),
                    () -> dropped(withCycleBehind(before, 2, 18)), JournalHouse::drop);
        }
        checks.same("a cycle began at 17", dropped(withCycleBehind(16, 2, 18)).drop(), 2);
    }

    /** A cycle on file 1 begins behind a number and stays open; the others, on file 0, are over; all are known. */
    private static JournalHouse withCycleBehind(int before, int job, int last) {
        JournalHouse house = ended(before);
        house.change(job, 1, 0, 6);
        int other = (job + 1) % 3;
        while (house.last() < last) {
            Houses.change(house, other, 0, 0, last - house.last() == 3 ? 2 : 1);
            if (house.last() < last) {
                house.end(other, true);
            }
        }
        Houses.deliver(house, 1, last);
        house.ack();
        return house;
    }

    /** "the remote is not known to have applied all its entries" */
    private void knownToHaveAppliedAll() {
        for (int applied : new int[] {0, 1, 7}) {
            refusals.wrongState("with " + applied + " applied", () -> knownUpTo(applied, 10), JournalHouse::drop);
        }
        checks.same("with 8 applied", knownUpTo(8, 10).drop(), 1);
        refusals.wrongState("with all but the first", () -> {
            JournalHouse house = ended(10);
            Houses.deliver(house, 2, 10);
            house.ack();
            return house;
        }, JournalHouse::drop);
    }

    private static JournalHouse knownUpTo(int applied, int last) {
        JournalHouse house = ended(last);
        Houses.deliver(house, 1, applied);
        house.ack();
        return house;
    }

    /** "(by ack)" */
    private void knownByAckAlone() {
        refusals.wrongState("applied, but the house was not told", () -> {
            JournalHouse house = ended(8);
            Houses.deliver(house, 1, 8);
            return house;
        }, JournalHouse::drop);
        refusals.wrongState("told before the last one came", () -> {
            JournalHouse house = knownUpTo(7, 8);
            Houses.deliver(house, 8, 8);
            return house;
        }, JournalHouse::drop);
        JournalHouse house = known(8);
        house.takeOver();
        checks.same("a remote that has taken over has applied them still", house.drop(), 1);
    }

    private void knownOfTheSecond() {
        refusals.wrongState("with 15 applied", () -> dropped(knownUpTo(15, 17)), JournalHouse::drop);
        checks.same("with 16 applied", dropped(knownUpTo(16, 17)).drop(), 2);
    }

    /** "its entries are KEPT no more" */
    private void keptNoMore() {
        Supplier<JournalHouse> state = () -> dropped(known(18));
        JournalHouse house = state.get();
        for (int what = 0; what <= 5; what++) {
            checks.same("entry 1", house.entry(1, what), JournalHouse.NONE);
            checks.same("entry 8", house.entry(8, what), JournalHouse.NONE);
        }
        checks.same("entry 9", house.entry(9, 0), 1);
        checks.same("entry 16", house.entry(16, 0), 2);
        checks.same("last", house.last(), 18);
        refusals.wrongArgument("entry 1 is sent", state, h -> h.link(1, 3));
        refusals.wrongArgument("entry 8 is sent", state, h -> h.link(8, 3));
        checks.same("entry 9 is sent", house.link(9, 3), 1);
        house.drop();
        checks.same("entry 16", house.entry(16, 0), JournalHouse.NONE);
        checks.same("entry 17", house.entry(17, 0), 1);
        refusals.wrongArgument("entry 16 is sent", () -> dropped(state.get()), h -> h.link(16, 3));
        checks.same("entry 17 is sent", house.link(17, 3), 2);
    }

    /** "all record writes that wait land first": also those of entries that are kept, the oldest first. */
    private void allWritesLandFirst() {
        JournalHouse house = Houses.withFiles(8, 8, 8);
        for (int at = 0; at < 23; at++) {
            house.change(0, at / 8, at % 8, 100 + at);
        }
        house.end(0, true);
        house.change(0, 0, 0, 300);
        Houses.deliver(house, 1, 8);
        house.ack();
        checks.same("none landed before", house.disk(0, 0), 0);
        checks.same("drop", house.drop(), 1);
        checks.same("the newest one of record 0", house.disk(0, 0), 300);
        for (int at = 1; at < 23; at++) {
            checks.same("record " + at, house.disk(at / 8, at % 8), 100 + at);
        }
        checks.same("none waits", house.cut(0), 0);
    }

    private void nothingWaits() {
        JournalHouse house = known(16);
        house.cut(2);
        house.start();
        checks.same("drop", house.drop(), 1);
        checks.same("disk", house.disk(0, 0), 1);
        checks.same("drop", house.drop(), 2);
        checks.same("get", house.get(0, 0), 1);
    }

    /** At most 120 entries are fifteen receivers. */
    private void fifteenReceivers() {
        Supplier<JournalHouse> full = () -> Houses.withDropped(15, 1);
        refusals.wrongState("a sixteenth", full, JournalHouse::drop);
        JournalHouse house = full.get();
        checks.same("last", house.last(), 120);
        checks.same("none is kept", house.entry(120, 0), JournalHouse.NONE);
        checks.same("get", house.get(0, 0), 0);
        house.cut(0);
        checks.same("start", house.start(), 120);
        checks.wrongState("a sixteenth behind a start", house::drop);
    }
}
