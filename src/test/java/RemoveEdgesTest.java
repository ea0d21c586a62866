import java.util.function.Supplier;

/** The edges of promise 10 (remove). */
public final class RemoveEdgesTest {
    private final Checks checks = new Checks();
    private final Refusals refusals = new Refusals(checks);

    public static void main(String[] args) {
        RemoveEdgesTest test = new RemoveEdgesTest();
        test.noSuchFile();
        test.belowZero();
        test.downToZero();
        test.notBelowTheLast();
        test.justBelowTheLast();
        test.notBelowItsOwn();
        test.justBelowItsOwn();
        test.anOpenCycle();
        test.noBoundaryAmidAJobsCycle();
        test.noBoundaryAmidTheHousesCycle();
        test.aChangeThatIsNotKept();
        test.onlyChangesUpToItsOwnMatter();
        test.onlyChangesOfTheFileMatter();
        test.nothingToChange();
        test.theNewestFirst();
        test.notWithTheOtherOne();
        test.onWhatItIsNow();
        test.checks.finish();
    }

    /** Nine entries; changes of file 0 are 1, 3, 7, 8. */
    private static JournalHouse live() {
        JournalHouse house = Houses.withFiles(2, 1);
        Houses.commitAll(house, 1);
        Houses.commitAll(house, 2);
        Houses.commit(house, 1, 0, 9);
        house.change(0, 0, 0, 3);
        house.change(0, 0, 1, 4);
        house.end(0, true);
        return house;
    }

    /** File 0 has the number 6; the house's own entries are 10 .. 12. */
    private static JournalHouse removed() {
        JournalHouse house = live();
        house.remove(0, 6);
        return house;
    }

    /** "IllegalArgumentException when there is no such file" */
    private void noSuchFile() {
        for (int file : new int[] {-1, 2, 3, Integer.MIN_VALUE, Integer.MAX_VALUE}) {
            refusals.wrongArgument("file " + file, RemoveEdgesTest::live, house -> house.remove(file, 4));
        }
        checks.same("the last file", live().remove(1, 4), 1);
    }

    /** "or the number is below 0" */
    private void belowZero() {
        for (int number : new int[] {-1, -2, Integer.MIN_VALUE}) {
            refusals.wrongArgument("of a live file", RemoveEdgesTest::live, house -> house.remove(0, number));
            refusals.wrongArgument("of one with a number", RemoveEdgesTest::removed, house -> house.remove(0, number));
            refusals.wrongArgument("with no entries", () -> Houses.withFiles(1), house -> house.remove(0, number));
        }
    }

    private void downToZero() {
        JournalHouse house = live();
        checks.same("of a live file", house.remove(0, 0), 2);
        checks.same("number", house.number(0), 0);
        checks.same("get", house.get(0, 0), 0);
        checks.same("of one with a number", removed().remove(0, 0), 1);
        refusals.wrongState("from 0", () -> {
            JournalHouse atZero = live();
            atZero.remove(0, 0);
            return atZero;
        }, atZero -> atZero.remove(0, 0));
    }

    /** "The number of a live file counts as the last number."; "when it is not below the file's" */
    private void notBelowTheLast() {
        for (int number : new int[] {9, 10, 120, 121, Integer.MAX_VALUE}) {
            refusals.wrongState("down to " + number, RemoveEdgesTest::live, house -> house.remove(0, number));
        }
        refusals.wrongState("with no entries", () -> Houses.withFiles(1), house -> house.remove(0, 0));
    }

    private void justBelowTheLast() {
        JournalHouse house = live();
        house.change(2, 1, 0, 5);
        checks.same("the last is a change of another file", house.last(), 10);
        checks.same("down to 9", house.remove(0, 9), 0);
        checks.same("number", house.number(0), 9);
        Supplier<JournalHouse> one = () -> {
            JournalHouse first = Houses.withFiles(1, 1);
            first.change(2, 1, 0, 5);
            return first;
        };
        refusals.wrongState("from 1 to 1", one, first -> first.remove(0, 1));
        checks.same("from 1 to 0", one.get().remove(0, 0), 0);
    }

    private void notBelowItsOwn() {
        for (int number : new int[] {6, 7, 9, 12, 13, Integer.MAX_VALUE}) {
            refusals.wrongState("from 6 to " + number, RemoveEdgesTest::removed, house -> house.remove(0, number));
        }
    }

    private void justBelowItsOwn() {
        JournalHouse house = removed();
        checks.same("from 6 to 5", house.remove(0, 5), 0);
        checks.same("from 5 to 4", house.remove(0, 4), 0);
        checks.same("number", house.number(0), 4);
        checks.same("from 4 to 2", house.remove(0, 2), 1);
        checks.same("get", house.get(0, 0), 1);
    }

    /** "a cycle on the file is open" */
    private void anOpenCycle() {
        for (int job = 0; job <= 2; job++) {
            int by = job;
            Supplier<JournalHouse> open = () -> {
                JournalHouse house = live();
                house.change(by, 0, 1, 7);
                return house;
            };
            refusals.wrongState("of job " + job, open, house -> house.remove(0, 4));
            JournalHouse house = open.get();
            house.end(job, job == 0);
            checks.same("behind its end", house.remove(0, 4), 2);
            JournalHouse other = live();
            other.change(job, 1, 0, 7);
            checks.same("on the other file", other.remove(0, 4), 2);
        }
    }

    /** "there is no boundary at the number" */
    private void noBoundaryAmidAJobsCycle() {
        for (int number : new int[] {1, 3, 7, 8}) {
            refusals.wrongState("down to " + number, RemoveEdgesTest::live, house -> house.remove(0, number));
        }
        for (int number : new int[] {0, 2, 4, 5, 6}) {
            checks.same("down to " + number, live().remove(0, number), 2);
        }
    }

    private void noBoundaryAmidTheHousesCycle() {
        Supplier<JournalHouse> changed = () -> {
            JournalHouse house = removed();
            Houses.commitAll(house, 6);
            return house;
        };
        refusals.wrongState("down to 10", changed, house -> house.remove(0, 10));
        refusals.wrongState("down to 11", changed, house -> house.remove(0, 11));
        checks.same("down to 12", changed.get().remove(0, 12), 1);
        checks.same("down to 9, through it", changed.get().remove(0, 9), 2);
    }

    /** "a change of it behind that up to its own is not kept": the last dropped entry is one. */
    private void aChangeThatIsNotKept() {
        Supplier<JournalHouse> dropped = () -> droppedWithChangeBehind(7);
        refusals.wrongState("over 8", dropped, house -> house.remove(0, 7));
        refusals.wrongState("over 8, to 0", dropped, house -> house.remove(0, 0));
        checks.same("over 10", dropped.get().remove(0, 9), 1);
        JournalHouse kept = droppedWithChangeBehind(8);
        checks.same("over 9", kept.remove(0, 8), 1);
        checks.same("get", kept.get(0, 0), 0);
        checks.same("to 0, as no change of it is dropped", droppedWithChangeBehind(8).remove(0, 0), 1);
    }

    /** Behind a number come two cycles on file 0, its first ones; then 1 .. 8 are dropped. */
    private static JournalHouse droppedWithChangeBehind(int number) {
        JournalHouse house = Houses.withFiles(1, 1);
        Houses.change(house, 1, 1, 0, number - 1);
        house.end(1, true);
        Houses.commitAll(house, 5, 6);
        Houses.dropReceiver(house, 0);
        return house;
    }

    private void onlyChangesUpToItsOwnMatter() {
        JournalHouse house = Houses.withFiles(1, 1);
        Houses.commit(house, 1, 0, 7);
        house.save(0, 0);
        Houses.commitAll(house, 1, 2, 3);
        Houses.dropReceiver(house, 0);
        house.restore(0);
        checks.same("those behind its number are dropped", house.remove(0, 0), 0);
        checks.same("number", house.number(0), 0);
    }

    private void onlyChangesOfTheFileMatter() {
        Supplier<JournalHouse> state = () -> {
            JournalHouse house = Houses.withFiles(1, 1);
            for (int n = 1; n <= 4; n++) {
                Houses.commit(house, 1, 0, n);
            }
            Houses.commitAll(house, 5);
            Houses.dropReceiver(house, 0);
            return house;
        };
        JournalHouse house = state.get();
        checks.same("those of the other file are dropped", house.remove(0, 0), 1);
        checks.same("get", house.get(0, 0), 0);
        refusals.wrongState("the other file can't go over them", state, other -> other.remove(1, 6));
        checks.same("but down to them", state.get().remove(1, 8), 0);
    }

    private void nothingToChange() {
        JournalHouse house = Houses.withFiles(1);
        Houses.commitAll(house, 5);
        Houses.change(house, 0, 0, 0, 2);
        house.end(0, false);
        checks.same("over a rolled back cycle", house.remove(0, 2), 0);
        checks.same("no COMMIT", house.last(), 7);
        checks.same("number", house.number(0), 2);
        checks.same("five writes wait", house.cut(0), 5);
    }

    /** "as the changes ... were before, the newest first"; "in their order" */
    private void theNewestFirst() {
        JournalHouse house = Houses.withFiles(8);
        for (int record = 7; record >= 0; record--) {
            house.change(0, 0, record, 10 + record);
        }
        house.end(0, true);
        for (int record = 7; record >= 0; record--) {
            house.change(1, 0, record, 50);
            house.change(1, 0, record, record == 4 ? 14 : 60 + record);
        }
        house.end(1, true);
        checks.same("all but record 4", house.remove(0, 9), 7);
        for (int i = 0; i < 7; i++) {
            int record = i < 4 ? i : i + 1;
            Houses.dueEntry(checks, house, 27 + i, 1, 3, 0, record, 60 + record, 10 + record);
        }
        Houses.dueEntry(checks, house, 34, 2, 3);
    }

    /** "back to (not with) the other one" */
    private void notWithTheOtherOne() {
        JournalHouse house = Houses.withFiles(1, 1);
        Houses.commitAll(house, 5);
        house.change(0, 1, 0, 9);
        checks.same("to 2, with the change at 1 left", house.remove(0, 2), 0);
        checks.same("get", house.get(0, 0), 5);
        house.end(0, true);
        checks.same("to a change of the other file", house.remove(1, 2), 1);
        checks.same("get", house.get(1, 0), 0);
    }

    /** What no change between the numbers is of stays, whatever was restored meanwhile. */
    private void onWhatItIsNow() {
        JournalHouse house = Houses.withFiles(3, 3);
        Houses.commit(house, 0, 1, 7);
        Houses.commit(house, 0, 0, 3);
        house.save(1, 1);
        house.restore(1);
        checks.same("remove", house.remove(0, 2), 1);
        checks.same("record 0", house.get(0, 0), 0);
        checks.same("record 1", house.get(0, 1), 7);
        checks.same("record 2", house.get(0, 2), 0);
    }
}
