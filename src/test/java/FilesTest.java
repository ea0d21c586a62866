/** Promises 1 (a new object), 2 (file), 4 (get), 5 (disk) and 12 (last). */
public final class FilesTest {
    public static void main(String[] args) {
        Checks checks = new Checks();
        newObject(checks);
        makingFiles(checks);
        fileWhileDown(checks);
        reading(checks);
        writesWait(checks);
        checks.finish();
    }

    private static void newObject(Checks checks) {
        JournalHouse house = new JournalHouse();
        checks.same("last", house.last(), 0);
        checks.same("get", house.get(0, 0), JournalHouse.NONE);
        checks.same("disk", house.disk(0, 0), JournalHouse.NONE);
        checks.same("remote", house.remote(0, 0), JournalHouse.NONE);
        checks.same("entry(1, 0)", house.entry(1, 0), JournalHouse.NONE);
        checks.same("number", house.number(0), -1);
        checks.no("boundary", house.boundary(0, 0));
        checks.same("ack", house.ack(), 0);
        checks.same("takeOver", house.takeOver(), 0);
        for (int slot = 0; slot < 4; slot++) {
            int s = slot;
            checks.wrongState("restore of an empty slot", () -> house.restore(s));
        }
        checks.wrongArgument("a letter on the empty link", () -> house.link(0, 0));
        checks.wrongState("a start of a house that is up", house::start);
        checks.wrongState("a drop of nothing", house::drop);
        checks.wrongArgument("a cut with a write that is not there", () -> house.cut(1));
        checks.same("cut(0)", house.cut(0), 0);
    }

    private static void makingFiles(Checks checks) {
        JournalHouse house = new JournalHouse();
        for (int records : new int[] {0, 9, -1, Integer.MIN_VALUE, Integer.MAX_VALUE}) {
            checks.wrongArgument("file of " + records, () -> house.file(records));
        }
        checks.same("first file", house.file(1), 0);
        checks.same("second file", house.file(8), 1);
        checks.same("third file", house.file(5), 2);
        checks.wrongState("fourth file", () -> house.file(1));
        checks.wrongArgument("fourth file of 9", () -> house.file(9));
        checks.same("last record of file 1", house.get(1, 7), 0);
        checks.same("record behind file 1", house.get(1, 8), JournalHouse.NONE);
        checks.same("record behind file 0", house.get(0, 1), JournalHouse.NONE);
        checks.same("no entries by files", house.last(), 0);
        checks.same("a new file is live", house.number(2), -1);
    }

    private static void fileWhileDown(Checks checks) {
        JournalHouse house = new JournalHouse();
        house.cut(0);
        checks.wrongArgument("file(0) while down", () -> house.file(0));
        checks.wrongState("file(1) while down", () -> house.file(1));
        house.start();
        checks.same("the file that was refused is not there", house.get(0, 0), JournalHouse.NONE);
        checks.same("file behind the start", house.file(1), 0);
    }

    private static void reading(Checks checks) {
        JournalHouse house = Houses.withFiles(2);
        house.change(0, 0, 1, Integer.MIN_VALUE);
        checks.same("get", house.get(0, 1), Integer.MIN_VALUE);
        checks.same("get of another", house.get(0, 0), 0);
        int[][] nowhere = {{0, -1}, {0, 2}, {-1, 0}, {1, 0}, {3, 0}, {0, Integer.MAX_VALUE}, {Integer.MIN_VALUE, 0}};
        for (int[] at : nowhere) {
            checks.same("get nowhere", house.get(at[0], at[1]), JournalHouse.NONE);
            checks.same("disk nowhere", house.disk(at[0], at[1]), JournalHouse.NONE);
            checks.same("remote nowhere", house.remote(at[0], at[1]), JournalHouse.NONE);
        }
        house.cut(1);
        checks.same("get while down", house.get(0, 1), JournalHouse.NONE);
        checks.same("disk while down", house.disk(0, 1), Integer.MIN_VALUE);
        checks.same("last while down", house.last(), 1);
    }

    private static void writesWait(Checks checks) {
        JournalHouse house = Houses.withFiles(1, 1);
        house.change(1, 1, 0, 5);
        for (int value = 1; value <= 11; value++) {
            house.change(0, 0, 0, value);
        }
        house.end(0, false);
        checks.same("last", house.last(), 24);
        house.change(2, 0, 0, 100);
        checks.same("disk with 24 that wait", house.disk(1, 0), 0);
        house.change(2, 0, 0, 101);
        checks.same("the oldest lands when there are 24", house.disk(1, 0), 5);
        checks.same("the next one waits", house.disk(0, 0), 0);
        house.change(2, 0, 0, 102);
        checks.same("then the next one lands", house.disk(0, 0), 1);
    }
}
