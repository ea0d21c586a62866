import java.util.function.Supplier;

/** The edges of entries' and files' numbers and of boundaries: "Terms", and promises 11 to 14. */
public final class NumbersEdgesTest {
    private final Checks checks = new Checks();

    public static void main(String[] args) {
        NumbersEdgesTest test = new NumbersEdgesTest();
        test.entriesAreNumberedFromOne();
        test.noSuchEntry();
        test.noSuchPart();
        test.partsOfAChangeAlone();
        test.partsOfTheHousesOwn();
        test.entriesWhileDown();
        test.filesAreLiveAtFirst();
        test.liveAgainWhenAJobChangesIt();
        test.notLiveByOthers();
        test.aBoundaryAtZero();
        test.aBoundaryAtTheLast();
        test.noSuchNumber();
        test.noBoundaryWhileACycleIsOpen();
        test.noBoundaryAmidARollback();
        test.noBoundaryAmidTheHousesOwn();
        test.aCycleIsOnAFileFromItsChangeOn();
        test.boundariesOfAFileMadeLater();
        test.boundariesOfDroppedNumbers();
        test.checks.finish();
    }

    /** "ENTRIES are numbered from 1; the LAST NUMBER is that of the newest one (0 for none)" */
    private void entriesAreNumberedFromOne() {
        JournalHouse house = Houses.withFiles(1);
        checks.same("last of none", house.last(), 0);
        checks.same("the first change", house.change(0, 0, 0, 5), 1);
        checks.same("last", house.last(), 1);
        checks.same("its kind", house.entry(1, 0), 1);
        checks.same("entry 0", house.entry(0, 0), JournalHouse.NONE);
        checks.same("the second entry", house.end(0, true), 2);
        checks.same("last", house.last(), 2);
        house.cut(0);
        checks.same("last while down", house.last(), 2);
    }

    /** "Of an entry that is kept ... NONE for all others." */
    private void noSuchEntry() {
        JournalHouse house = Houses.withFiles(1);
        checks.same("entry 1 of none", house.entry(1, 0), JournalHouse.NONE);
        Houses.commitAll(house, 1, 2, 3, 4, 5);
        for (int what = 0; what <= 5; what++) {
            for (int number : new int[] {-1, 0, 11, 12, 120, 121, Integer.MIN_VALUE, Integer.MAX_VALUE}) {
                checks.same("entry(" + number + ", " + what + ")", house.entry(number, what), JournalHouse.NONE);
            }
        }
        checks.same("the first one", house.entry(1, 0), 1);
        checks.same("the last one", house.entry(10, 0), 2);
        Houses.dropReceiver(house, 0);
        checks.same("the last that is dropped", house.entry(8, 0), JournalHouse.NONE);
        checks.same("the first that is kept", house.entry(9, 0), 1);
    }

    /** "what = 0 its kind, ... 5 what came" */
    private void noSuchPart() {
        JournalHouse house = Houses.withFiles(2);
        house.change(1, 0, 1, 7);
        house.end(1, true);
        for (int what : new int[] {-1, 6, 7, Integer.MIN_VALUE, Integer.MAX_VALUE}) {
            checks.same("entry(1, " + what + ")", house.entry(1, what), JournalHouse.NONE);
            checks.same("entry(2, " + what + ")", house.entry(2, what), JournalHouse.NONE);
        }
        Houses.dueEntry(checks, house, 1, 1, 1, 0, 1, 0, 7);
    }

    /** "(2 to 5 of a change)" */
    private void partsOfAChangeAlone() {
        JournalHouse house = Houses.withFiles(1, 2, 8);
        house.change(2, 2, 7, 7);
        house.change(0, 1, 1, 8);
        house.end(2, false);
        house.end(0, true);
        Houses.dueEntry(checks, house, 1, 1, 2, 2, 7, 0, 7);
        Houses.dueEntry(checks, house, 2, 1, 0, 1, 1, 0, 8);
        Houses.dueEntry(checks, house, 3, 1, 2, 2, 7, 7, 0);
        Houses.dueEntry(checks, house, 4, 3, 2);
        Houses.dueEntry(checks, house, 5, 2, 0);
    }

    /** "The job of what the house does itself is 3." */
    private void partsOfTheHousesOwn() {
        JournalHouse house = Houses.withFiles(1, 2);
        Houses.commit(house, 1, 1, 8);
        house.remove(1, 0);
        Houses.dueEntry(checks, house, 3, 1, 3, 1, 1, 8, 0);
        Houses.dueEntry(checks, house, 4, 2, 3);
    }

    /** "(the house up or down)" */
    private void entriesWhileDown() {
        JournalHouse house = Houses.withFiles(1);
        Houses.commitAll(house, 1, 2, 3, 4, 5);
        Houses.dropReceiver(house, 0);
        house.cut(0);
        Houses.dueEntry(checks, house, 8);
        Houses.dueEntry(checks, house, 9, 1, 0, 0, 0, 4, 5);
        Houses.dueEntry(checks, house, 10, 2, 0);
        Houses.dueEntry(checks, house, 11);
    }

    /** "otherwise it is LIVE (all are at first ...)"; "-1 when it is live, or there is none such" */
    private void filesAreLiveAtFirst() {
        JournalHouse house = Houses.withFiles(1, 1, 1);
        for (int file = -1; file <= 3; file++) {
            checks.same("file " + file, house.number(file), -1);
        }
        checks.same("far below", house.number(Integer.MIN_VALUE), -1);
        checks.same("far above", house.number(Integer.MAX_VALUE), -1);
        house.save(2, 0);
        house.restore(0);
        checks.same("the last file", house.number(2), 0);
        checks.same("the one before it", house.number(1), -1);
        checks.same("none behind it", house.number(3), -1);
    }

    /** File 0 has the number 2, and file 1 is live. */
    private static JournalHouse withNumber() {
        JournalHouse house = Houses.withFiles(2, 1);
        Houses.commitAll(house, 1, 2);
        house.remove(0, 2);
        return house;
    }

    /** "each is again when a job changes it" */
    private void liveAgainWhenAJobChangesIt() {
        for (int job = 0; job <= 2; job++) {
            JournalHouse house = withNumber();
            checks.same("it has a number", house.number(0), 2);
            house.change(job, 0, 1, 0);
            checks.same("job " + job + " changed it", house.number(0), -1);
            house.end(job, false);
            checks.same("and rolled that back", house.number(0), -1);
        }
    }

    private void notLiveByOthers() {
        JournalHouse house = withNumber();
        house.change(0, 1, 0, 5);
        checks.same("a change of another file", house.number(0), 2);
        house.end(0, true);
        house.save(0, 0);
        checks.same("a save", house.number(0), 2);
        checks.wrongArgument("a wrong change", () -> house.change(0, 0, 2, 5));
        checks.same("a change that throws", house.number(0), 2);
        house.apply(0, 4);
        checks.same("the house's own changes", house.number(0), 4);
        house.remove(0, 0);
        checks.same("the house's own changes", house.number(0), 0);
        house.cut(0);
        checks.same("a cut", house.number(0), 0);
        house.start();
        checks.same("a start", house.number(0), 0);
    }

    /** "There is a BOUNDARY of a file at a number (0, too)" */
    private void aBoundaryAtZero() {
        JournalHouse house = Houses.withFiles(1);
        checks.yes("with no entries", house.boundary(0, 0));
        house.change(0, 0, 0, 1);
        checks.yes("with an open cycle behind it", house.boundary(0, 0));
        house.cut(0);
        checks.yes("while down", house.boundary(0, 0));
        checks.no("of no file", house.boundary(1, 0));
    }

    /** "at a number, 0 .. the last one" */
    private void aBoundaryAtTheLast() {
        JournalHouse house = Houses.withFiles(1);
        checks.no("at 1 of none", house.boundary(0, 1));
        Houses.commitAll(house, 1, 2);
        checks.yes("at the last", house.boundary(0, 4));
        checks.no("behind it", house.boundary(0, 5));
        house.change(0, 0, 0, 3);
        checks.no("at the last, a change", house.boundary(0, 5));
    }

    /** "False when there is no such file or number." */
    private void noSuchNumber() {
        Supplier<JournalHouse> state = NumbersEdgesTest::withNumber;
        for (int number : new int[] {-1, 7, 8, 120, 121, Integer.MIN_VALUE, Integer.MAX_VALUE}) {
            checks.no("at " + number, state.get().boundary(0, number));
        }
        for (int file : new int[] {-1, 2, 3, 31, 32, Integer.MIN_VALUE, Integer.MAX_VALUE}) {
            checks.no("of file " + file, state.get().boundary(file, 2));
        }
        checks.yes("of the last file at the last number", state.get().boundary(1, 6));
    }

    private void noBoundaryWhileACycleIsOpen() {
        JournalHouse house = Houses.withFiles(3, 1);
        house.change(0, 0, 0, 1);
        house.change(1, 0, 1, 1);
        house.change(2, 0, 2, 1);
        house.end(1, true);
        house.end(0, false);
        house.end(2, true);
        Houses.dueBoundaries(checks, house, 0, "+------+");
        Houses.dueBoundaries(checks, house, 1, "++++++++");
    }

    private void noBoundaryAmidARollback() {
        JournalHouse house = Houses.withFiles(2);
        house.change(0, 0, 0, 1);
        house.change(0, 0, 1, 1);
        house.end(0, false);
        Houses.dueBoundaries(checks, house, 0, "+----+");
    }

    /** "(the cycles of the house itself, too, are open in between)" */
    private void noBoundaryAmidTheHousesOwn() {
        JournalHouse house = Houses.withFiles(3, 1);
        house.save(0, 0);
        Houses.commit(house, 1, 0, 9);
        house.change(0, 0, 0, 1);
        house.change(0, 0, 1, 1);
        house.change(0, 0, 2, 1);
        house.end(0, true);
        house.restore(0);
        Houses.dueBoundaries(checks, house, 0, "+++---+---+");
        house.apply(0, 6);
        Houses.dueBoundaries(checks, house, 0, "+++---+---+---+");
        house.remove(0, 2);
        Houses.dueBoundaries(checks, house, 0, "+++---+---+---+---+");
        Houses.dueBoundaries(checks, house, 1, "+-+++++++++++++++++");
    }

    /** "It is ON each file that it changed": not yet, just after an entry before that change. */
    private void aCycleIsOnAFileFromItsChangeOn() {
        JournalHouse house = Houses.withFiles(1, 1, 1);
        house.change(1, 0, 0, 1);
        house.change(1, 1, 0, 1);
        house.change(1, 2, 0, 1);
        house.end(1, true);
        Houses.dueBoundaries(checks, house, 0, "+---+");
        Houses.dueBoundaries(checks, house, 1, "++--+");
        Houses.dueBoundaries(checks, house, 2, "+++-+");
    }

    private void boundariesOfAFileMadeLater() {
        JournalHouse house = Houses.withFiles(1);
        house.change(0, 0, 0, 1);
        house.file(1);
        house.end(0, true);
        Houses.dueBoundaries(checks, house, 0, "+-+");
        Houses.dueBoundaries(checks, house, 1, "+++");
    }

    private void boundariesOfDroppedNumbers() {
        JournalHouse house = Houses.withFiles(1);
        Houses.commitAll(house, 1, 2, 3, 4, 5);
        Houses.dropReceiver(house, 0);
        Houses.dueBoundaries(checks, house, 0, "+-+-+-+-+-+");
        house.cut(0);
        Houses.dueBoundaries(checks, house, 0, "+-+-+-+-+-+");
    }
}
