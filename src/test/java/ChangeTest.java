/** Promise 3: change, with its locks, its room and its reserve. */
public final class ChangeTest {
    public static void main(String[] args) {
        Checks checks = new Checks();
        ordinary(checks);
        wrongArguments(checks);
        locks(checks);
        reserveOfOne(checks);
        justEnoughRoom(checks);
        reserveOfSeveral(checks);
        roomEndsAt120(checks);
        whileDown(checks);
        checks.finish();
    }

    private static void ordinary(Checks checks) {
        JournalHouse house = Houses.withFiles(2, 1);
        checks.same("first", house.change(0, 0, 1, 7), 1);
        checks.same("second", house.change(2, 1, 0, -3), 2);
        checks.same("the same value once more", house.change(0, 0, 1, 7), 3);
        checks.same("before of the third", house.entry(3, 4), 7);
        checks.same("after of the third", house.entry(3, 5), 7);
        checks.same("get", house.get(1, 0), -3);
        checks.same("last", house.last(), 3);
    }

    private static void wrongArguments(Checks checks) {
        JournalHouse house = Houses.withFiles(2);
        int[][] wrong = {{-1, 0, 0}, {3, 0, 0}, {4, 0, 0}, {0, -1, 0}, {0, 1, 0}, {0, 0, -1}, {0, 0, 2},
                {Integer.MAX_VALUE, 0, 0}, {0, Integer.MIN_VALUE, 0}, {0, 0, Integer.MAX_VALUE}};
        for (int[] w : wrong) {
            checks.wrongArgument("change", () -> house.change(w[0], w[1], w[2], 1));
        }
        checks.same("nothing was written", house.last(), 0);
        checks.same("nothing waits", house.cut(0), 0);
    }

    private static void locks(Checks checks) {
        JournalHouse house = Houses.withFiles(2);
        house.change(0, 0, 0, 1);
        checks.wrongState("a record of another job", () -> house.change(1, 0, 0, 2));
        checks.same("its own record", house.change(0, 0, 0, 3), 2);
        checks.same("another record of the file", house.change(1, 0, 1, 4), 3);
        checks.wrongState("a record of job 1", () -> house.change(0, 0, 1, 5));
        house.end(0, true);
        checks.same("behind a COMMIT", house.change(2, 0, 0, 6), 5);
        house.end(1, false);
        checks.same("behind a ROLLBACK", house.change(2, 0, 1, 7), 8);
        checks.wrongState("now of job 2", () -> house.change(0, 0, 0, 8));
        checks.same("what was refused is not there", house.get(0, 0), 6);
        checks.same("nor in the journal", house.last(), 8);
    }

    private static void reserveOfOne(Checks checks) {
        JournalHouse house = Houses.withFiles(1);
        for (int n = 1; n <= 23; n++) {
            checks.same("change", house.change(0, 0, 0, n), n);
        }
        checks.wrongState("a change with too little room", () -> house.change(0, 0, 0, 24));
        checks.wrongState("the first one of another job", () -> house.change(1, 0, 0, 24));
        checks.same("rolled back", house.end(0, false), 47);
        checks.wrongState("no room for a change and its end", () -> house.change(0, 0, 0, 1));
    }

    private static void justEnoughRoom(Checks checks) {
        JournalHouse house = Houses.withFiles(1);
        house.change(0, 0, 0, 1);
        house.change(0, 0, 0, 2);
        house.end(0, true);
        for (int n = 4; n <= 25; n++) {
            checks.same("change", house.change(0, 0, 0, n), n);
        }
        checks.wrongState("room was as much as the reserve", () -> house.change(0, 0, 0, 26));
        checks.same("rolled back", house.end(0, false), 48);
        checks.wrongState("all is full", () -> house.change(0, 0, 0, 1));
    }

    private static void reserveOfSeveral(Checks checks) {
        JournalHouse house = Houses.withFiles(3);
        for (int n = 0; n < 21; n++) {
            house.change(n % 3, 0, n % 3, n);
        }
        checks.same("reserve is 7 + 1 for each, room is 27", house.change(0, 0, 0, 1), 22);
        checks.wrongState("less room than the reserve", () -> house.change(1, 0, 1, 1));
        house.end(0, true);
        checks.same("a cycle that is over has no reserve", house.change(1, 0, 1, 1), 24);
        house.cut(0);
        checks.same("all can be rolled back", house.start(), 24 + 8 + 1 + 7 + 1);
    }

    private static void roomEndsAt120(Checks checks) {
        JournalHouse house = Houses.withFiles(1);
        for (int receiver = 0; receiver < 12; receiver++) {
            Houses.commitAll(house, 1, 2, 3, 4);
            Houses.dropReceiver(house, receiver);
        }
        checks.same("last", house.last(), 96);
        for (int n = 97; n <= 107; n++) {
            checks.same("change", house.change(1, 0, 0, n), n);
        }
        checks.wrongState("a twelfth change, as 120 - 108 is less than 13", () -> house.change(1, 0, 0, 0));
        checks.same("rolled back", house.end(1, false), 119);
        checks.wrongState("a change at 119", () -> house.change(1, 0, 0, 0));
    }

    private static void whileDown(Checks checks) {
        JournalHouse house = Houses.withFiles(1);
        house.cut(0);
        checks.wrongArgument("wrong job while down", () -> house.change(3, 0, 0, 1));
        checks.wrongArgument("wrong file while down", () -> house.change(0, 1, 0, 1));
        checks.wrongState("change while down", () -> house.change(0, 0, 0, 1));
        checks.same("nothing was written", house.start(), 0);
    }
}
