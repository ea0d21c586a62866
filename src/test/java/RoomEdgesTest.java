import java.util.function.Supplier;

/** The edges of entries, receivers, room and reserve: "Terms", and promises 3, 8, 9, 10 and 15. */
public final class RoomEdgesTest {
    private final Checks checks = new Checks();
    private final Refusals refusals = new Refusals(checks);

    public static void main(String[] args) {
        RoomEdgesTest test = new RoomEdgesTest();
        test.sixReceiversAreKept();
        test.roomAsMuchAsTheReserve();
        test.theFirstChangeOfACycle();
        test.theNextChangeOfACycle();
        test.theReserveOfThreeCycles();
        test.theReserveIsEnough();
        test.anEndedCycleHasNoReserve();
        test.ownChangesThatFit();
        test.oneOwnChangeTooMany();
        test.noOwnChangesAreNeverRefused();
        test.atMost120Entries();
        test.noChangeBehind117();
        test.ownChangesUpTo120();
        test.a120thEntryByRollback();
        test.checks.finish();
    }

    /**
     * "At most six are kept: there is ROOM for entries up to 8 times (the dropped ones and 6), 120 at most":
     * n changes of one cycle need room for 2n + 1 entries.
     */
    private void sixReceiversAreKept() {
        int[] changes = {23, 23, 23, 23, 23, 23, 23, 23, 23, 23, 19, 15, 11, 7, 3, 0};
        for (int receivers = 0; receivers <= 15; receivers++) {
            int dropped = receivers;
            JournalHouse house = Houses.withDropped(dropped, 1);
            for (int n = 1; n <= changes[dropped]; n++) {
                checks.same("with " + dropped + " dropped", house.change(1, 0, 0, n), 8 * dropped + n);
            }
            refusals.wrongState("one more with " + dropped + " dropped", () -> {
                JournalHouse full = Houses.withDropped(dropped, 1);
                Houses.change(full, 1, 0, 0, changes[dropped]);
                return full;
            }, full -> full.change(1, 0, 0, 0));
        }
    }

    /** "refused, if behind it ... there would be less room than the reserve": as much is enough. */
    private void roomAsMuchAsTheReserve() {
        Supplier<JournalHouse> state = () -> {
            JournalHouse house = Houses.withFiles(1);
            Houses.change(house, 0, 0, 0, 2);
            house.end(0, true);
            Houses.change(house, 0, 0, 0, 21);
            return house;
        };
        JournalHouse house = state.get();
        checks.same("behind 25 entries room is 23, as 22 and 1", house.change(0, 0, 0, 5), 25);
        checks.same("all of it is used", house.end(0, false), 48);
        refusals.wrongState("behind 26 entries it would be 22, not 24", () -> {
            JournalHouse full = state.get();
            full.change(0, 0, 0, 5);
            return full;
        }, full -> full.change(0, 0, 0, 6));
    }

    /** "(with its cycle as it is then)": a first change takes one entry, and has a reserve of two. */
    private void theFirstChangeOfACycle() {
        Supplier<JournalHouse> three = () -> fullBut(3);
        JournalHouse house = three.get();
        checks.same("with room for three", house.change(2, 0, 0, 1), 46);
        checks.same("it can be rolled back", house.end(2, false), 48);
        for (int room = 0; room <= 2; room++) {
            int left = room;
            for (int job = 0; job <= 2; job++) {
                int by = job;
                refusals.wrongState("with room for " + left, () -> fullBut(left), full -> full.change(by, 0, 0, 1));
            }
        }
    }

    /** One open cycle with one change: a second one takes one entry, and the reserve is three then. */
    private void theNextChangeOfACycle() {
        JournalHouse house = fullBut(6);
        house.change(1, 0, 0, 1);
        checks.same("with room for five and a reserve of two", house.change(1, 0, 0, 2), 44);
        refusals.wrongState("with room for four and a reserve of three", () -> {
            JournalHouse full = fullBut(6);
            Houses.change(full, 1, 0, 0, 2);
            return full;
        }, full -> full.change(1, 0, 0, 3));
        refusals.wrongState("with room for three and a reserve of two", () -> {
            JournalHouse full = fullBut(4);
            full.change(1, 0, 0, 1);
            return full;
        }, full -> full.change(1, 0, 0, 2));
        refusals.wrongState("another job's first, with room for four and a reserve of two", () -> {
            JournalHouse full = fullBut(5);
            full.change(1, 0, 0, 1);
            return full;
        }, full -> full.change(2, 0, 1, 2));
        JournalHouse enough = fullBut(6);
        enough.change(1, 0, 0, 1);
        checks.same("another job's first, with room for five", enough.change(2, 0, 1, 2), 44);
    }

    /** No open cycle, room for so many entries of 48 (six at most), and all records 0. */
    private static JournalHouse fullBut(int room) {
        JournalHouse house = Houses.withFiles(2, 1);
        // A cycle of n changes that is rolled back takes 2n + 1 entries.
        int[] changes = room % 2 == 0 ? new int[] {19, 4 - room / 2} : new int[] {18, 3 - room / 2, 1};
        for (int n : changes) {
            Houses.change(house, 0, 0, 0, n);
            house.end(0, false);
        }
        return house;
    }

    /** "The RESERVE is for each open cycle as many as it has changes, and one more." */
    private void theReserveOfThreeCycles() {
        Supplier<JournalHouse> state = () -> {
            JournalHouse house = Houses.withFiles(3);
            Houses.change(house, 0, 0, 0, 10);
            Houses.change(house, 1, 0, 1, 7);
            Houses.change(house, 2, 0, 2, 5);
            return house;
        };
        for (int job = 0; job <= 2; job++) {
            int by = job;
            refusals.wrongState("job " + job + " at 22, with room for 26 and a reserve of 25", state,
                    house -> house.change(by, 0, by, 0));
        }
        for (int job = 0; job <= 2; job++) {
            JournalHouse house = Houses.withFiles(3);
            Houses.change(house, 0, 0, 0, 10);
            Houses.change(house, 1, 0, 1, 6);
            Houses.change(house, 2, 0, 2, 5);
            checks.same("job " + job + " at 21, with room for 27 and a reserve of 24",
                    house.change(job, 0, job, 0), 22);
        }
    }

    /** What is reserved lets each cycle be rolled back, whichever comes first. */
    private void theReserveIsEnough() {
        for (int first = 0; first <= 2; first++) {
            JournalHouse house = Houses.withFiles(3);
            Houses.change(house, 0, 0, 0, 10);
            Houses.change(house, 1, 0, 1, 7);
            Houses.change(house, 2, 0, 2, 5);
            for (int i = 0; i <= 2; i++) {
                house.end((first + i) % 3, false);
            }
            checks.same("all rolled back", house.last(), 47);
            for (int job = 0; job <= 2; job++) {
                checks.same("record of job " + job, house.get(0, job), 0);
            }
        }
    }

    private void anEndedCycleHasNoReserve() {
        for (boolean commit : new boolean[] {true, false}) {
            int last = commit ? 21 : 25;
            int free = commit ? 5 : 3;
            Supplier<JournalHouse> ended = () -> {
                JournalHouse house = Houses.withFiles(2);
                Houses.change(house, 0, 0, 0, 4);
                Houses.change(house, 1, 0, 1, 16);
                house.end(0, commit);
                Houses.change(house, 1, 0, 1, free - 1);
                return house;
            };
            checks.same("the last that is free", ended.get().change(1, 0, 1, 0), last + free);
            refusals.wrongState("one more", () -> {
                JournalHouse house = ended.get();
                house.change(1, 0, 1, 0);
                return house;
            }, house -> house.change(1, 0, 1, 0));
        }
    }

    /** "are refused, if there would be less room behind them than the reserve": as much is enough. */
    private void ownChangesThatFit() {
        checks.same("restore of one", toRestore(1, 21).restore(0), 1);
        checks.same("restore of eight", toRestore(8, 14).restore(0), 8);
        checks.same("remove of one", toRestore(1, 21).remove(0, 0), 1);
        checks.same("remove of eight", toRestore(8, 14).remove(0, 0), 8);
        checks.same("apply of one", toApply(1, 1, 20).apply(0, 3), 1);
        checks.same("apply of eight", toApply(8, 2, 9).apply(0, 11), 8);
        JournalHouse house = toRestore(8, 14);
        house.restore(0);
        checks.same("the reserve is left", house.end(1, false), 48);
    }

    private void oneOwnChangeTooMany() {
        refusals.wrongState("restore of one", () -> toRestore(1, 22), house -> house.restore(0));
        refusals.wrongState("restore of eight", () -> toRestore(8, 15), house -> house.restore(0));
        refusals.wrongState("remove of one", () -> toRestore(1, 22), house -> house.remove(0, 0));
        refusals.wrongState("remove of eight", () -> toRestore(8, 15), house -> house.remove(0, 0));
        refusals.wrongState("apply of one", () -> toApply(1, 1, 21), house -> house.apply(0, 3));
        refusals.wrongState("apply of eight", () -> toApply(8, 2, 10), house -> house.apply(0, 11));
        refusals.wrongState("restore with room for one", () -> changedAndFullBut(1), house -> house.restore(0));
        checks.same("restore with room for two", changedAndFullBut(2).restore(0), 1);
    }

    private static JournalHouse changedAndFullBut(int room) {
        JournalHouse house = Houses.withFiles(1);
        house.save(0, 0);
        Houses.commitAll(house, 7);
        int[] changes = room == 1 ? new int[] {22} : new int[] {19, 2};
        for (int n : changes) {
            Houses.change(house, 0, 0, 0, n);
            house.end(0, false);
        }
        return house;
    }

    /** k records of file 0 are to be others in k + 2 entries; another cycle has n changes, and a reserve of n + 1. */
    private static JournalHouse toRestore(int k, int n) {
        JournalHouse house = Houses.withFiles(8, 1);
        house.save(0, 0);
        house.change(0, 0, 0, 9);
        for (int record = 0; record < k; record++) {
            house.change(0, 0, record, 1 + record);
        }
        house.end(0, true);
        Houses.change(house, 1, 1, 0, n);
        return house;
    }

    /** As above, but file 0 was restored to 0, which took k + 1 entries more; it had more changes than k. */
    private static JournalHouse toApply(int k, int more, int n) {
        JournalHouse house = Houses.withFiles(8, 1);
        house.save(0, 0);
        Houses.change(house, 0, 0, 0, more);
        for (int record = 0; record < k; record++) {
            house.change(0, 0, record, 10 + record);
        }
        house.end(0, true);
        house.restore(0);
        Houses.change(house, 1, 1, 0, n);
        return house;
    }

    /** "k of them (k above 0)": without a change there is no COMMIT that needs room. */
    private void noOwnChangesAreNeverRefused() {
        for (int room = 0; room <= 1; room++) {
            JournalHouse house = fullBut(room);
            int last = 48 - room;
            checks.same("save", house.save(0, 1), last);
            checks.same("restore", house.restore(1), 0);
            checks.same("number", house.number(0), last);
            checks.same("remove of a file without changes", house.remove(1, 0), 0);
            checks.same("apply to it", house.apply(1, last), 0);
            checks.same("number", house.number(1), last);
            checks.same("last", house.last(), last);
        }
    }

    /** "there are at most 120": no change of a job can be the last one, as its end needs room, too. */
    private void atMost120Entries() {
        for (int receivers : new int[] {9, 10, 12}) {
            Supplier<JournalHouse> with119 = () -> {
                JournalHouse house = Houses.withDropped(receivers, 1, 1);
                Houses.change(house, 0, 0, 0, (120 - house.last() - 1) / 2);
                house.end(0, false);
                return house;
            };
            checks.same("last", with119.get().last(), 119);
            checks.same("a 120th is not there", with119.get().entry(120, 0), JournalHouse.NONE);
            for (int job = 0; job <= 2; job++) {
                int by = job;
                refusals.wrongState("job " + job + " at 119", with119, house -> house.change(by, 1, 0, 5));
            }
        }
    }

    /** 116 entries; record 0 of file 0 was 5 when it was saved, and is 7. */
    private static JournalHouse with116() {
        JournalHouse house = Houses.withDropped(9, 1, 1);
        Houses.commitAll(house, 5);
        house.save(0, 0);
        Houses.change(house, 1, 0, 0, 19);
        house.end(1, false);
        house.change(1, 0, 0, 6);
        house.change(1, 0, 0, 7);
        house.end(1, true);
        return house;
    }

    private static JournalHouse with117() {
        JournalHouse house = with116();
        house.change(0, 1, 0, 1);
        return house;
    }

    /** The cycle of the 117th entry is over, by its COMMIT, or by its rollback, which takes one entry more. */
    private static JournalHouse with118() {
        JournalHouse house = with117();
        house.end(0, true);
        return house;
    }

    private static JournalHouse with119() {
        JournalHouse house = with117();
        house.end(0, false);
        return house;
    }

    private void noChangeBehind117() {
        checks.same("last", with116().last(), 116);
        checks.same("at 116", with116().change(2, 1, 0, 1), 117);
        refusals.wrongState("a second one at 117", RoomEdgesTest::with117, full -> full.change(0, 1, 0, 2));
        refusals.wrongState("another job's first at 117", RoomEdgesTest::with117, full -> full.change(2, 0, 0, 2));
        refusals.wrongState("a change at 118", RoomEdgesTest::with118, full -> full.change(0, 1, 0, 2));
        refusals.wrongState("a change at 119", RoomEdgesTest::with119, full -> full.change(0, 1, 0, 2));
    }

    private void ownChangesUpTo120() {
        JournalHouse house = with118();
        checks.same("restore at 118", house.restore(0), 1);
        checks.same("last", house.last(), 120);
        Houses.dueEntry(checks, house, 120, 2, 3);
        checks.yes("a boundary at 120", house.boundary(0, 120));
        checks.same("restore of nothing at 120", house.restore(0), 0);
        refusals.wrongState("restore at 119", RoomEdgesTest::with119, full -> full.restore(0));
        checks.same("remove at 118", with118().remove(0, 113), 1);
        refusals.wrongState("remove at 119", RoomEdgesTest::with119, full -> full.remove(0, 113));
        refusals.wrongState("remove at 120", () -> {
            JournalHouse full = with118();
            full.restore(0);
            return full;
        }, full -> full.remove(1, 116));
    }

    private void a120thEntryByRollback() {
        Supplier<JournalHouse> state = () -> {
            JournalHouse house = Houses.withDropped(9, 1);
            Houses.change(house, 1, 0, 0, 2);
            house.end(1, true);
            Houses.change(house, 0, 0, 0, 22);
            return house;
        };
        checks.same("at 97 room is 23, as the reserve", state.get().last(), 97);
        refusals.wrongState("a 23rd", state, house -> house.change(0, 0, 0, 0));
        JournalHouse house = state.get();
        house.cut(0);
        checks.same("the start rolls it back", house.start(), 120);
        Houses.dueEntry(checks, house, 120, 3, 0);
        checks.same("get", house.get(0, 0), 2);
        Houses.deliver(house, 73, 120);
        checks.same("all come", house.ack(), 120);
        checks.same("takeOver", house.takeOver(), 120);
    }
}
