/** Promises 9 (apply), 10 (remove) and 11 (number). */
public final class ApplyRemoveTest {
    public static void main(String[] args) {
        Checks checks = new Checks();
        applies(checks);
        appliesThroughARollback(checks);
        limits(checks);
        limitOfARemovedFile(checks);
        limitsWithoutChanges(checks);
        filesApart(checks);
        removes(checks);
        nothingToChange(checks);
        boundaries(checks);
        ownChangesCount(checks);
        droppedChanges(checks);
        otherFilesMayBeDropped(checks);
        refused(checks);
        openCycle(checks);
        wrongArguments(checks);
        whileDown(checks);
        numbers(checks);
        checks.finish();
    }

    private static void applies(Checks checks) {
        JournalHouse house = Houses.withFiles(3, 1);
        house.save(0, 0);
        house.change(0, 0, 2, 1);
        house.change(0, 0, 0, 2);
        house.change(0, 0, 2, 3);
        house.end(0, true);
        Houses.commit(house, 1, 0, 50);
        Houses.commit(house, 0, 1, 4);
        house.restore(0);
        checks.same("last", house.last(), 12);
        checks.same("apply", house.apply(0, 5), 2);
        checks.same("number", house.number(0), 5);
        checks.same("last", house.last(), 15);
        checks.same("record 0", house.get(0, 0), 2);
        checks.same("record 1", house.get(0, 1), 0);
        checks.same("record 2", house.get(0, 2), 3);
        checks.same("records in their order", house.entry(13, 3), 0);
        checks.same("by the house", house.entry(13, 1), 3);
        checks.same("only the last that came", house.entry(14, 5), 3);
        checks.same("COMMIT", house.entry(15, 0), 2);
        checks.same("the other file", house.get(1, 0), 50);
        checks.same("apply the rest", house.apply(0, 8), 1);
        checks.same("record 1", house.get(0, 1), 4);
    }

    private static void appliesThroughARollback(Checks checks) {
        JournalHouse house = Houses.withFiles(2);
        house.save(0, 0);
        house.change(0, 0, 0, 1);
        house.change(0, 0, 1, 2);
        house.end(0, false);
        Houses.commitAll(house, 6);
        house.restore(0);
        checks.same("a rolled back cycle leaves nothing", house.apply(0, 5), 0);
        checks.same("number", house.number(0), 5);
        checks.same("then the next one", house.apply(0, 7), 1);
        checks.same("get", house.get(0, 0), 6);
    }

    private static void limits(Checks checks) {
        JournalHouse house = Houses.withFiles(1);
        house.save(0, 0);
        Houses.commitAll(house, 1, 2);
        checks.wrongState("apply of a live file", () -> house.apply(0, 2));
        house.restore(0);
        checks.same("last", house.last(), 6);
        checks.wrongState("its own number", () -> house.apply(0, 0));
        checks.wrongState("below 0", () -> house.apply(0, -1));
        checks.wrongState("the limit", () -> house.apply(0, 5));
        checks.wrongState("behind the limit", () -> house.apply(0, 6));
        checks.wrongState("far behind it", () -> house.apply(0, Integer.MAX_VALUE));
        checks.same("just below it", house.apply(0, 4), 1);
        checks.wrongState("below its own number now", () -> house.apply(0, 2));
        checks.same("a remove of a file with a number", house.remove(0, 2), 1);
        checks.same("last", house.last(), 10);
        checks.wrongState("leaves the limit", () -> house.apply(0, 6));
        house.restore(0);
        checks.same("a restore of a file with a number sets it", house.apply(0, 10), 1);
        checks.same("what it was just behind 10", house.get(0, 0), 1);
        checks.wrongState("the new limit", () -> house.apply(0, 11));
    }

    private static void limitOfARemovedFile(Checks checks) {
        JournalHouse house = Houses.withFiles(1);
        Houses.commitAll(house, 1, 2, 3);
        checks.same("remove", house.remove(0, 2), 1);
        checks.same("last", house.last(), 8);
        checks.wrongState("the limit", () -> house.apply(0, 7));
        checks.wrongState("behind the limit", () -> house.apply(0, 8));
        checks.same("just below it", house.apply(0, 6), 1);
        checks.same("get", house.get(0, 0), 3);
    }

    /** Only if the house changed nothing there may be a boundary at the limit. */
    private static void limitsWithoutChanges(Checks checks) {
        JournalHouse house = Houses.withFiles(1, 1);
        house.save(0, 0);
        Houses.commitAll(house, 1, 0);
        checks.same("restore", house.restore(0), 0);
        Houses.commit(house, 1, 0, 7);
        checks.yes("boundary", house.boundary(0, 5));
        checks.wrongState("the limit of a restored file", () -> house.apply(0, 5));
        checks.wrongState("behind the limit", () -> house.apply(0, 6));
        checks.same("below the limit", house.apply(0, 4), 0);
        JournalHouse other = Houses.withFiles(1, 1);
        Houses.commitAll(other, 1, 0);
        checks.same("remove", other.remove(0, 0), 0);
        Houses.commit(other, 1, 0, 7);
        checks.wrongState("the limit of a removed file", () -> other.apply(0, 5));
        checks.same("below the limit", other.apply(0, 2), 1);
        checks.same("get", other.get(0, 0), 1);
    }

    private static void filesApart(Checks checks) {
        JournalHouse house = Houses.withFiles(2, 2);
        house.save(1, 1);
        Houses.commit(house, 0, 1, 1);
        house.save(0, 0);
        Houses.commit(house, 0, 0, 2);
        Houses.commit(house, 1, 1, 3);
        house.restore(0);
        house.restore(1);
        checks.same("apply to file 0", house.apply(0, 4), 1);
        checks.same("record 0", house.get(0, 0), 2);
        checks.same("record 1 stays", house.get(0, 1), 1);
        checks.same("apply to file 1", house.apply(1, 6), 1);
        checks.same("record 0 stays", house.get(1, 0), 0);
        checks.same("record 1", house.get(1, 1), 3);
        checks.same("remove from file 0", house.remove(0, 2), 1);
        checks.same("record 0", house.get(0, 0), 0);
        checks.same("record 1 stays", house.get(0, 1), 1);
    }

    private static void removes(Checks checks) {
        JournalHouse house = Houses.withFiles(2, 1);
        Houses.commitAll(house, 1);
        house.change(1, 0, 0, 2);
        house.change(1, 0, 1, 3);
        house.change(1, 0, 0, 4);
        house.end(1, true);
        Houses.commit(house, 1, 0, 9);
        checks.same("remove", house.remove(0, 2), 2);
        checks.same("number", house.number(0), 2);
        checks.same("record 0", house.get(0, 0), 1);
        checks.same("record 1", house.get(0, 1), 0);
        checks.same("by the house", house.entry(9, 1), 3);
        checks.same("before", house.entry(9, 4), 4);
        checks.same("after", house.entry(9, 5), 1);
        checks.same("COMMIT", house.entry(11, 0), 2);
        checks.same("the other file", house.get(1, 0), 9);
        checks.wrongState("its own number", () -> house.remove(0, 2));
        checks.wrongState("above it", () -> house.remove(0, 8));
        checks.same("to 0", house.remove(0, 0), 1);
        checks.same("number", house.number(0), 0);
        checks.wrongState("nothing is below 0", () -> house.remove(0, 0));
    }

    private static void nothingToChange(Checks checks) {
        JournalHouse house = Houses.withFiles(1, 1);
        Houses.commit(house, 1, 0, 1);
        checks.wrongState("a live file has the last number", () -> house.remove(0, 2));
        checks.same("remove", house.remove(0, 1), 0);
        checks.same("no COMMIT", house.last(), 2);
        checks.same("number", house.number(0), 1);
        checks.wrongState("the limit", () -> house.apply(0, 3));
        checks.same("apply", house.apply(0, 2), 0);
        checks.same("number", house.number(0), 2);
        checks.same("no COMMIT", house.last(), 2);
    }

    private static void boundaries(Checks checks) {
        JournalHouse house = Houses.withFiles(2, 1);
        house.save(0, 0);
        house.change(0, 1, 0, 1);
        house.change(0, 0, 0, 2);
        house.change(1, 0, 1, 3);
        house.end(0, true);
        house.end(1, true);
        for (int number = 2; number <= 4; number++) {
            int n = number;
            checks.wrongState("remove to " + n, () -> house.remove(0, n));
        }
        house.restore(0);
        for (int number = 2; number <= 4; number++) {
            int n = number;
            checks.wrongState("apply to " + n, () -> house.apply(0, n));
        }
        checks.same("the cycle was not yet on it", house.apply(0, 1), 0);
        checks.same("apply to 5", house.apply(0, 5), 2);
    }

    private static void ownChangesCount(Checks checks) {
        JournalHouse house = Houses.withFiles(2);
        house.save(0, 0);
        house.change(0, 0, 0, 1);
        house.change(0, 0, 1, 2);
        house.end(0, true);
        house.restore(0);
        Houses.commitAll(house, 5);
        checks.same("last", house.last(), 8);
        checks.wrongState("amid the house's own cycle", () -> house.remove(0, 5));
        checks.same("behind it", house.remove(0, 6), 1);
        checks.same("record 0", house.get(0, 0), 0);
        checks.same("through it", house.remove(0, 3), 2);
        checks.same("record 0", house.get(0, 0), 1);
        checks.same("record 1", house.get(0, 1), 2);
        checks.same("and forward again", house.apply(0, 6), 2);
        checks.same("record 1", house.get(0, 1), 0);
    }

    private static void droppedChanges(Checks checks) {
        JournalHouse house = Houses.withFiles(1, 1);
        house.save(0, 0);
        Houses.commitAll(house, 1, 2, 3, 4, 5);
        Houses.dropReceiver(house, 0);
        checks.wrongState("remove over a dropped change", () -> house.remove(0, 6));
        checks.same("remove to the last dropped number", house.remove(0, 8), 1);
        checks.same("get", house.get(0, 0), 4);
        checks.wrongState("back from it", () -> house.remove(0, 6));
        house.restore(0);
        checks.wrongState("apply over dropped changes", () -> house.apply(0, 10));
        checks.wrongState("apply of a dropped change", () -> house.apply(0, 2));
        checks.same("number", house.number(0), 0);
    }

    private static void otherFilesMayBeDropped(Checks checks) {
        JournalHouse house = Houses.withFiles(1, 1);
        house.save(0, 0);
        for (int n = 0; n < 4; n++) {
            Houses.commit(house, 1, 0, n);
        }
        Houses.commitAll(house, 6);
        Houses.dropReceiver(house, 0);
        checks.same("remove", house.remove(0, 3), 1);
        checks.same("get", house.get(0, 0), 0);
        checks.same("apply", house.apply(0, 10), 1);
        checks.same("get", house.get(0, 0), 6);
        house.restore(0);
        checks.same("apply from 0", house.apply(0, 10), 1);
        checks.same("get", house.get(0, 0), 6);
    }

    private static void refused(Checks checks) {
        JournalHouse house = Houses.withFiles(2);
        house.save(0, 0);
        house.change(0, 0, 0, 1);
        house.change(0, 0, 1, 1);
        house.end(0, true);
        for (int n = 0; n < 20; n++) {
            house.change(1, 0, 0, n);
        }
        house.end(1, false);
        checks.same("last", house.last(), 44);
        checks.same("restore", house.restore(0), 2);
        checks.same("last", house.last(), 47);
        checks.wrongState("apply without room", () -> house.apply(0, 3));
        checks.same("number as it was", house.number(0), 0);
        checks.same("record as it was", house.get(0, 0), 0);
        house.save(0, 1);
        checks.same("a restore sets the limit", house.restore(1), 0);
        checks.wrongState("remove without room", () -> house.remove(0, 44));
        checks.same("number as it was", house.number(0), 47);
        checks.same("last as it was", house.last(), 47);
    }

    private static void openCycle(Checks checks) {
        JournalHouse house = Houses.withFiles(2, 1);
        Houses.commitAll(house, 1);
        house.change(2, 0, 1, 2);
        checks.wrongState("remove", () -> house.remove(0, 0));
        house.end(2, false);
        house.change(2, 1, 0, 2);
        checks.same("a cycle on another file", house.remove(0, 0), 1);
        checks.same("and apply", house.apply(0, 2), 1);
    }

    private static void wrongArguments(Checks checks) {
        JournalHouse house = Houses.withFiles(1);
        Houses.commitAll(house, 1);
        for (int file : new int[] {-1, 1, 3, Integer.MAX_VALUE, Integer.MIN_VALUE}) {
            checks.wrongArgument("apply to file " + file, () -> house.apply(file, 1));
            checks.wrongArgument("remove from file " + file, () -> house.remove(file, 0));
        }
        checks.wrongArgument("remove to -1", () -> house.remove(0, -1));
        checks.wrongArgument("remove far down", () -> house.remove(0, Integer.MIN_VALUE));
        checks.wrongState("remove to the last number", () -> house.remove(0, 2));
        checks.wrongState("remove far up", () -> house.remove(0, Integer.MAX_VALUE));
        checks.wrongState("apply below 0 is no wrong argument", () -> house.apply(0, -1));
    }

    private static void whileDown(Checks checks) {
        JournalHouse house = Houses.withFiles(1);
        Houses.commitAll(house, 1, 2);
        house.remove(0, 2);
        house.cut(1);
        checks.wrongArgument("apply to no file", () -> house.apply(1, 4));
        checks.wrongArgument("remove to -1", () -> house.remove(0, -1));
        checks.wrongState("apply", () -> house.apply(0, 4));
        checks.wrongState("remove", () -> house.remove(0, 0));
        checks.same("number while down", house.number(0), 2);
        house.start();
        checks.same("number outlives the cut", house.number(0), 2);
        checks.same("and so does its limit", house.apply(0, 4), 1);
        checks.same("get", house.get(0, 0), 2);
    }

    private static void numbers(Checks checks) {
        JournalHouse house = Houses.withFiles(2, 1);
        Houses.commitAll(house, 1, 2);
        checks.same("live", house.number(0), -1);
        house.remove(0, 2);
        checks.same("removed", house.number(0), 2);
        checks.same("the other one", house.number(1), -1);
        house.change(1, 1, 0, 5);
        checks.same("another file is changed", house.number(0), 2);
        house.change(1, 0, 1, 0);
        checks.same("changed by a job, to the same value", house.number(0), -1);
        house.end(1, false);
        checks.same("rolled back", house.number(0), -1);
        for (int file : new int[] {-1, 2, 3, Integer.MAX_VALUE, Integer.MIN_VALUE}) {
            checks.same("no file", house.number(file), -1);
        }
    }
}
