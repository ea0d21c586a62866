import java.util.function.Supplier;

/** The edges of promise 9 (apply), and of the limit of a file. */
public final class ApplyEdgesTest {
    private final Checks checks = new Checks();
    private final Refusals refusals = new Refusals(checks);

    public static void main(String[] args) {
        ApplyEdgesTest test = new ApplyEdgesTest();
        test.noSuchFile();
        test.aLiveFile();
        test.notAboveItsOwn();
        test.justAboveItsOwn();
        test.notBelowTheLimit();
        test.justBelowTheLimit();
        test.aBoundaryAtTheLimit();
        test.theLimitOfARestoredFile();
        test.theLimitOfARemovedFile();
        test.whatLeavesTheLimit();
        test.aRefusedRestoreLeavesTheLimit();
        test.anOpenCycle();
        test.noBoundaryAmidAJobsCycle();
        test.noBoundaryAmidTheHousesCycle();
        test.aChangeThatIsNotKept();
        test.onlyChangesBehindItsNumberMatter();
        test.onlyChangesOfTheFileMatter();
        test.nothingToChange();
        test.oneAfterTheOther();
        test.onWhatItIsNow();
        test.checks.finish();
    }

    /** File 0 has the number 2 and the limit 10; of the numbers up to 12, those of its changes are 1, 3, 7, 8, 10, 11. */
    private static JournalHouse restored() {
        JournalHouse house = Houses.withFiles(2, 1);
        Houses.commitAll(house, 1);
        house.save(0, 0);
        Houses.commitAll(house, 2);
        Houses.commit(house, 1, 0, 9);
        house.change(0, 0, 0, 3);
        house.change(0, 0, 1, 4);
        house.end(0, true);
        house.restore(0);
        return house;
    }

    /** "IllegalArgumentException when there is no such file" */
    private void noSuchFile() {
        for (int file : new int[] {-1, 2, 3, Integer.MIN_VALUE, Integer.MAX_VALUE}) {
            refusals.wrongArgument("file " + file, ApplyEdgesTest::restored, house -> house.apply(file, 4));
        }
    }

    /** "IllegalStateException when it is live" */
    private void aLiveFile() {
        refusals.wrongState("never restored", ApplyEdgesTest::restored, house -> house.apply(1, 6));
        refusals.wrongState("changed since", () -> {
            JournalHouse house = restored();
            Houses.commit(house, 0, 1, 5);
            return house;
        }, house -> house.apply(0, 4));
        refusals.wrongState("with no entries", () -> Houses.withFiles(1), house -> house.apply(0, 0));
        refusals.wrongState("with no entries, up to 1", () -> Houses.withFiles(1), house -> house.apply(0, 1));
    }

    /** "the number is not above its own": no number is a wrong argument. */
    private void notAboveItsOwn() {
        for (int number : new int[] {2, 1, 0, -1, Integer.MIN_VALUE}) {
            refusals.wrongState("up to " + number, ApplyEdgesTest::restored, house -> house.apply(0, number));
        }
        Supplier<JournalHouse> applied = () -> {
            JournalHouse house = restored();
            house.apply(0, 6);
            return house;
        };
        for (int number : new int[] {6, 5, 4, 2}) {
            refusals.wrongState("from 6 up to " + number, applied, house -> house.apply(0, number));
        }
        checks.same("from 6", applied.get().apply(0, 9), 2);
    }

    private void justAboveItsOwn() {
        JournalHouse house = restored();
        checks.same("from 2", house.apply(0, 4), 1);
        checks.same("from 4, a change of the other file is no change", house.apply(0, 5), 0);
        checks.same("number", house.number(0), 5);
        checks.same("from 5", house.apply(0, 6), 0);
        checks.same("number", house.number(0), 6);
        checks.same("get", house.get(0, 0), 2);
    }

    /** "or not below its limit" */
    private void notBelowTheLimit() {
        for (int number : new int[] {10, 11, 12, 13, 120, 121, Integer.MAX_VALUE}) {
            refusals.wrongState("up to " + number, ApplyEdgesTest::restored, house -> house.apply(0, number));
        }
    }

    private void justBelowTheLimit() {
        JournalHouse house = restored();
        checks.same("up to 9", house.apply(0, 9), 2);
        checks.same("number", house.number(0), 9);
        checks.same("record 0", house.get(0, 0), 3);
        checks.same("record 1", house.get(0, 1), 4);
    }

    /** Without changes of the house there can be a boundary at the limit, and only the limit refuses it. */
    private void aBoundaryAtTheLimit() {
        Supplier<JournalHouse> restoredToTheSame = () -> {
            JournalHouse house = Houses.withFiles(1, 1);
            house.save(0, 0);
            Houses.commitAll(house, 1, 0);
            house.restore(0);
            Houses.commit(house, 1, 0, 7);
            return house;
        };
        checks.yes("boundary", restoredToTheSame.get().boundary(0, 5));
        refusals.wrongState("up to 5", restoredToTheSame, house -> house.apply(0, 5));
        refusals.wrongState("up to 6", restoredToTheSame, house -> house.apply(0, 6));
        checks.same("up to 4", restoredToTheSame.get().apply(0, 4), 0);
        Supplier<JournalHouse> removedToTheSame = () -> {
            JournalHouse house = Houses.withFiles(1, 1);
            Houses.commitAll(house, 1, 0);
            house.remove(0, 0);
            Houses.commit(house, 1, 0, 7);
            return house;
        };
        refusals.wrongState("up to 5", removedToTheSame, house -> house.apply(0, 5));
        refusals.wrongState("up to 6", removedToTheSame, house -> house.apply(0, 6));
        checks.same("up to 4", removedToTheSame.get().apply(0, 4), 0);
        Supplier<JournalHouse> restoredAtZero = () -> {
            JournalHouse house = Houses.withFiles(1, 1);
            house.save(0, 0);
            house.restore(0);
            Houses.commit(house, 1, 0, 7);
            return house;
        };
        refusals.wrongState("up to a limit of 1", restoredAtZero, house -> house.apply(0, 1));
        refusals.wrongState("up to 2, with a limit of 1", restoredAtZero, house -> house.apply(0, 2));
    }

    /** "one more than the last number there was before a file was restored", if it was live or not. */
    private void theLimitOfARestoredFile() {
        JournalHouse house = restored();
        house.restore(0);
        checks.same("a file with a number is restored at 12", house.number(0), 2);
        checks.same("up to 12", house.apply(0, 12), 0);
        checks.same("number", house.number(0), 12);
        house.restore(0);
        Houses.commit(house, 1, 0, 8);
        checks.yes("boundary", house.boundary(0, 14));
        checks.wrongState("up to 14", () -> house.apply(0, 14));
        house.restore(0);
        checks.same("restored at 14", house.apply(0, 14), 0);
    }

    /** "or before a live one was removed down" */
    private void theLimitOfARemovedFile() {
        Supplier<JournalHouse> removed = () -> {
            JournalHouse house = Houses.withFiles(1);
            Houses.commitAll(house, 1, 2, 3);
            house.remove(0, 2);
            return house;
        };
        for (int number : new int[] {7, 8, 9}) {
            refusals.wrongState("up to " + number, removed, house -> house.apply(0, number));
        }
        checks.same("up to 6", removed.get().apply(0, 6), 1);
        JournalHouse again = removed.get();
        Houses.commitAll(again, 4);
        again.remove(0, 2);
        checks.same("live again, and removed at 10", again.apply(0, 10), 1);
        checks.same("get", again.get(0, 0), 4);
    }

    private void whatLeavesTheLimit() {
        JournalHouse house = restored();
        house.apply(0, 9);
        checks.same("last", house.last(), 15);
        checks.wrongState("apply leaves it", () -> house.apply(0, 12));
        house.remove(0, 2);
        checks.same("last", house.last(), 18);
        checks.wrongState("remove of a file with a number leaves it", () -> house.apply(0, 12));
        house.save(0, 1);
        checks.wrongState("save leaves it", () -> house.apply(0, 12));
        house.save(1, 2);
        house.restore(2);
        checks.wrongState("restore of another file leaves it", () -> house.apply(0, 12));
        checks.same("up to 9", house.apply(0, 9), 2);
    }

    private void aRefusedRestoreLeavesTheLimit() {
        JournalHouse house = Houses.withFiles(1, 1);
        house.save(0, 0);
        Houses.commitAll(house, 1);
        house.save(0, 1);
        house.restore(0);
        Houses.change(house, 1, 1, 0, 21);
        checks.same("last", house.last(), 25);
        checks.wrongState("a restore without room", () -> house.restore(1));
        checks.same("number as it was", house.number(0), 0);
        house.end(1, true);
        checks.wrongState("limit as it was", () -> house.apply(0, 4));
        checks.same("up to 2", house.apply(0, 2), 1);
    }

    /** "a cycle on it is open": its change has made the file live, too; one on another file is none of its. */
    private void anOpenCycle() {
        refusals.wrongState("on the file", () -> {
            JournalHouse house = restored();
            house.change(2, 0, 1, 7);
            return house;
        }, house -> house.apply(0, 4));
        JournalHouse house = restored();
        house.change(2, 1, 0, 7);
        checks.same("on the other file", house.apply(0, 4), 1);
    }

    /** "there is no boundary at the number" */
    private void noBoundaryAmidAJobsCycle() {
        for (int number : new int[] {3, 7, 8}) {
            refusals.wrongState("up to " + number, ApplyEdgesTest::restored, house -> house.apply(0, number));
        }
        for (int number : new int[] {4, 5, 6, 9}) {
            checks.yes("up to " + number, restored().apply(0, number) > 0);
        }
    }

    private void noBoundaryAmidTheHousesCycle() {
        Supplier<JournalHouse> twice = () -> {
            JournalHouse house = restored();
            house.restore(0);
            return house;
        };
        refusals.wrongState("up to 10", twice, house -> house.apply(0, 10));
        refusals.wrongState("up to 11", twice, house -> house.apply(0, 11));
        checks.same("up to 12", twice.get().apply(0, 12), 0);
    }

    /** "a change of it behind its number up to that one is not kept": the last dropped entry is one. */
    private void aChangeThatIsNotKept() {
        Supplier<JournalHouse> dropped = () -> droppedWithChangeBehind(7);
        refusals.wrongState("from 7 over 8", dropped, house -> house.apply(0, 9));
        refusals.wrongState("from 7 over 8 and on", dropped, house -> house.apply(0, 11));
        JournalHouse kept = droppedWithChangeBehind(8);
        checks.same("from 8 over 9", kept.apply(0, 10), 1);
        checks.same("get", kept.get(0, 0), 5);
        checks.same("from 10 over 11", kept.apply(0, 12), 1);
    }

    /** Behind a number, at which file 0 was saved, come two cycles on it; then 1 .. 8 are dropped; it is restored. */
    private static JournalHouse droppedWithChangeBehind(int number) {
        JournalHouse house = Houses.withFiles(1, 1);
        Houses.change(house, 1, 1, 0, number - 1);
        house.end(1, true);
        house.save(0, 0);
        Houses.commitAll(house, 5, 6);
        Houses.dropReceiver(house, 0);
        house.restore(0);
        return house;
    }

    private void onlyChangesBehindItsNumberMatter() {
        JournalHouse house = Houses.withFiles(1);
        Houses.commitAll(house, 1, 2, 3, 4);
        house.save(0, 0);
        Houses.commitAll(house, 5);
        Houses.dropReceiver(house, 0);
        house.restore(0);
        checks.same("those before it are dropped", house.apply(0, 10), 1);
        Supplier<JournalHouse> upTo = () -> {
            JournalHouse later = Houses.withFiles(1, 1);
            later.save(0, 0);
            Houses.commit(later, 1, 0, 9);
            Houses.commitAll(later, 1, 2, 3);
            Houses.dropReceiver(later, 0);
            later.restore(0);
            return later;
        };
        checks.same("there is none up to 2", upTo.get().apply(0, 2), 0);
        refusals.wrongState("there is one up to 4", upTo, later -> later.apply(0, 4));
    }

    private void onlyChangesOfTheFileMatter() {
        JournalHouse house = Houses.withFiles(1, 1);
        house.save(0, 0);
        for (int n = 1; n <= 4; n++) {
            Houses.commit(house, 1, 0, n);
        }
        Houses.commitAll(house, 5);
        Houses.dropReceiver(house, 0);
        house.restore(0);
        checks.same("those of the other file are dropped", house.apply(0, 10), 1);
        checks.same("get", house.get(0, 0), 5);
    }

    private void nothingToChange() {
        JournalHouse house = Houses.withFiles(1);
        house.save(0, 0);
        Houses.change(house, 0, 0, 0, 3);
        house.end(0, false);
        house.restore(0);
        checks.same("apply", house.apply(0, 7), 0);
        checks.same("no COMMIT", house.last(), 7);
        checks.same("number", house.number(0), 7);
        checks.same("six writes wait", house.cut(0), 6);
    }

    /** "as the changes of the file ... came, one after the other, on what it is now"; "in their order" */
    private void oneAfterTheOther() {
        JournalHouse house = Houses.withFiles(8);
        house.save(0, 0);
        for (int record = 7; record >= 0; record--) {
            house.change(0, 0, record, 50);
            house.change(0, 0, record, record == 4 ? 0 : 10 + record);
        }
        house.end(0, true);
        house.restore(0);
        int last = house.last();
        checks.same("all but record 4", house.apply(0, 17), 7);
        for (int i = 0; i < 7; i++) {
            int record = i < 4 ? i : i + 1;
            Houses.dueEntry(checks, house, last + 1 + i, 1, 3, 0, record, 0, 10 + record);
        }
        Houses.dueEntry(checks, house, last + 8, 2, 3);
    }

    /** What no change between the numbers is of stays, whatever was restored meanwhile. */
    private void onWhatItIsNow() {
        JournalHouse house = Houses.withFiles(3, 3);
        Houses.commit(house, 0, 1, 7);
        house.save(0, 0);
        Houses.commit(house, 0, 0, 3);
        house.restore(0);
        house.save(1, 1);
        house.restore(1);
        checks.same("apply", house.apply(0, 4), 1);
        checks.same("record 0", house.get(0, 0), 3);
        checks.same("record 1", house.get(0, 1), 7);
        checks.same("record 2", house.get(0, 2), 0);
    }
}
