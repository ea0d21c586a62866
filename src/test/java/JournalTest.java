/** Promises 12 (last), 13 (boundary) and 14 (entry). */
public final class JournalTest {
    public static void main(String[] args) {
        Checks checks = new Checks();
        boundaries(checks);
        boundariesInRollback(checks);
        boundariesOfTheHouse(checks);
        boundariesNowhere(checks);
        entries(checks);
        entriesNowhere(checks);
        checks.finish();
    }

    private static void boundaries(Checks checks) {
        JournalHouse house = Houses.withFiles(2, 1, 1);
        house.change(0, 0, 0, 1);
        house.change(0, 1, 0, 1);
        house.change(1, 0, 1, 1);
        Houses.dueBoundaries(checks, house, 0, "+---");
        Houses.dueBoundaries(checks, house, 1, "++--");
        house.end(0, true);
        house.end(1, true);
        house.change(0, 2, 0, 1);
        Houses.dueBoundaries(checks, house, 0, "+----++");
        Houses.dueBoundaries(checks, house, 1, "++--+++");
        Houses.dueBoundaries(checks, house, 2, "++++++-");
    }

    private static void boundariesInRollback(Checks checks) {
        JournalHouse house = Houses.withFiles(1, 1);
        house.change(0, 0, 0, 1);
        house.change(0, 1, 0, 1);
        house.cut(0);
        Houses.dueBoundaries(checks, house, 0, "+--");
        house.start();
        Houses.dueBoundaries(checks, house, 0, "+----+");
        Houses.dueBoundaries(checks, house, 1, "++---+");
    }

    private static void boundariesOfTheHouse(Checks checks) {
        JournalHouse house = Houses.withFiles(2, 1);
        house.change(0, 0, 0, 1);
        house.change(0, 0, 1, 1);
        house.end(0, true);
        house.remove(0, 0);
        Houses.dueBoundaries(checks, house, 0, "+--+--+");
        Houses.dueBoundaries(checks, house, 1, "+++++++");
        house.apply(0, 3);
        Houses.dueBoundaries(checks, house, 0, "+--+--+--+");
    }

    private static void boundariesNowhere(Checks checks) {
        JournalHouse house = Houses.withFiles(1);
        Houses.commitAll(house, 1, 2, 3, 4);
        for (int number : new int[] {-1, 9, 120, 121, Integer.MAX_VALUE, Integer.MIN_VALUE}) {
            checks.no("boundary at " + number, house.boundary(0, number));
        }
        for (int file : new int[] {-1, 1, 2, 3, 32, Integer.MAX_VALUE, Integer.MIN_VALUE}) {
            checks.no("boundary of " + file, house.boundary(file, 2));
        }
        Houses.dropReceiver(house, 0);
        Houses.dueBoundaries(checks, house, 0, "+-+-+-+-+");
        house.file(1);
        checks.yes("a file that was made later", house.boundary(1, 1));
    }

    private static void entries(Checks checks) {
        JournalHouse house = Houses.withFiles(1, 8);
        checks.same("last", house.last(), 0);
        house.change(2, 1, 7, Integer.MAX_VALUE);
        house.change(2, 1, 7, Integer.MIN_VALUE);
        house.end(2, true);
        long[] second = {1, 2, 1, 7, Integer.MAX_VALUE, Integer.MIN_VALUE};
        long[] third = {2, 2, JournalHouse.NONE, JournalHouse.NONE, JournalHouse.NONE, JournalHouse.NONE};
        for (int what = 0; what <= 5; what++) {
            checks.same("second " + what, house.entry(2, what), second[what]);
            checks.same("third " + what, house.entry(3, what), third[what]);
        }
        checks.same("last", house.last(), 3);
        house.cut(0);
        checks.same("while down", house.entry(2, 4), Integer.MAX_VALUE);
    }

    private static void entriesNowhere(Checks checks) {
        JournalHouse house = Houses.withFiles(1);
        Houses.commitAll(house, 1, 2, 3, 4, 5);
        for (int number : new int[] {0, -1, 11, 120, 121, Integer.MAX_VALUE, Integer.MIN_VALUE}) {
            checks.same("entry " + number, house.entry(number, 0), JournalHouse.NONE);
        }
        for (int what : new int[] {-1, 6, Integer.MAX_VALUE, Integer.MIN_VALUE}) {
            checks.same("what " + what, house.entry(1, what), JournalHouse.NONE);
            checks.same("what " + what + " of a COMMIT", house.entry(2, what), JournalHouse.NONE);
        }
        Houses.dropReceiver(house, 0);
        for (int what = 0; what <= 5; what++) {
            checks.same("a dropped one", house.entry(7, what), JournalHouse.NONE);
            checks.same("the last dropped one", house.entry(8, what), JournalHouse.NONE);
        }
        checks.same("the oldest kept one", house.entry(9, 5), 5);
        house.cut(0);
        checks.same("a dropped one while down", house.entry(8, 0), JournalHouse.NONE);
        checks.same("a kept one while down", house.entry(9, 0), 1);
    }
}
