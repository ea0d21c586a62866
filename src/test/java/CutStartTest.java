/** Promises 16 (cut) and 17 (start). */
public final class CutStartTest {
    public static void main(String[] args) {
        Checks checks = new Checks();
        landsAndLoses(checks);
        wrongCuts(checks);
        startsAsTheJournalSays(checks);
        rollsBackByJob(checks);
        rollbackWaits(checks);
        downAnswers(checks);
        checks.finish();
    }

    private static void landsAndLoses(Checks checks) {
        JournalHouse house = Houses.withFiles(2);
        house.change(0, 0, 0, 1);
        house.change(0, 0, 1, 2);
        house.change(0, 0, 0, 3);
        checks.same("cut", house.cut(2), 1);
        checks.same("the oldest landed", house.disk(0, 0), 1);
        checks.same("and the next one", house.disk(0, 1), 2);
        checks.same("the journal has all", house.last(), 3);
        JournalHouse other = Houses.withFiles(1);
        Houses.commitAll(other, 1, 2);
        checks.same("none is lost", other.cut(2), 0);
        checks.same("disk", other.disk(0, 0), 2);
    }

    private static void wrongCuts(Checks checks) {
        JournalHouse house = Houses.withFiles(1);
        Houses.commitAll(house, 1, 2);
        for (int n : new int[] {-1, 3, Integer.MAX_VALUE, Integer.MIN_VALUE}) {
            checks.wrongArgument("cut " + n, () -> house.cut(n));
        }
        checks.same("the house is up", house.get(0, 0), 2);
        checks.same("nothing landed", house.disk(0, 0), 0);
        checks.same("cut", house.cut(1), 1);
        checks.wrongArgument("one more than wait while down", () -> house.cut(1));
        checks.wrongArgument("-1 while down", () -> house.cut(-1));
        checks.wrongState("cut while down", () -> house.cut(0));
        checks.same("disk as it was", house.disk(0, 0), 1);
        house.start();
        checks.wrongArgument("none waits behind a start", () -> house.cut(1));
    }

    private static void startsAsTheJournalSays(Checks checks) {
        JournalHouse house = Houses.withFiles(2, 1);
        checks.wrongState("start while up", house::start);
        Houses.commit(house, 0, 0, 1);
        Houses.commit(house, 0, 1, 2);
        Houses.commit(house, 0, 0, 3);
        Houses.commit(house, 1, 0, 4);
        house.cut(1);
        checks.same("start", house.start(), 8);
        int[][] due = {{0, 0, 3}, {0, 1, 2}, {1, 0, 4}};
        for (int[] d : due) {
            checks.same("get", house.get(d[0], d[1]), d[2]);
            checks.same("disk", house.disk(d[0], d[1]), d[2]);
        }
        checks.same("none waits", house.cut(0), 0);
        checks.same("start again", house.start(), 8);
        checks.wrongState("it is up", house::start);
    }

    private static void rollsBackByJob(Checks checks) {
        JournalHouse house = Houses.withFiles(3);
        house.change(2, 0, 2, 30);
        house.change(0, 0, 0, 10);
        house.change(1, 0, 1, 20);
        house.change(2, 0, 2, 31);
        house.end(1, true);
        house.cut(4);
        checks.same("start", house.start(), 10);
        int[][] due = {{6, 1, 0}, {7, 3, 0}, {8, 1, 2}, {9, 1, 2}, {10, 3, 2}};
        for (int[] d : due) {
            checks.same("kind of " + d[0], house.entry(d[0], 0), d[1]);
            checks.same("job of " + d[0], house.entry(d[0], 1), d[2]);
        }
        checks.same("the newest first", house.entry(8, 5), 30);
        checks.same("job 0", house.get(0, 0), 0);
        checks.same("job 1", house.get(0, 1), 20);
        checks.same("job 2", house.get(0, 2), 0);
        checks.same("no lock is left", house.change(1, 0, 0, 5), 11);
    }

    private static void rollbackWaits(Checks checks) {
        JournalHouse house = Houses.withFiles(1);
        house.change(0, 0, 0, 1);
        house.change(0, 0, 0, 2);
        house.cut(0);
        checks.same("start", house.start(), 5);
        checks.same("get", house.get(0, 0), 0);
        checks.same("disk has what the journal had", house.disk(0, 0), 2);
        checks.same("two wait", house.cut(1), 1);
        checks.same("the first of them landed", house.disk(0, 0), 1);
        checks.same("nothing is open any more", house.start(), 5);
        checks.same("get", house.get(0, 0), 0);
        checks.same("disk", house.disk(0, 0), 0);
    }

    private static void downAnswers(Checks checks) {
        JournalHouse house = Houses.withFiles(1);
        Houses.commitAll(house, 7);
        house.cut(0);
        checks.same("get", house.get(0, 0), JournalHouse.NONE);
        checks.same("disk", house.disk(0, 0), 0);
        checks.same("last", house.last(), 2);
        checks.yes("boundary", house.boundary(0, 2));
        checks.same("number", house.number(0), -1);
        checks.same("remote", house.remote(0, 0), 0);
        checks.same("takeOver", house.takeOver(), 0);
        checks.wrongState("ack", house::ack);
        checks.same("start", house.start(), 2);
        checks.same("get", house.get(0, 0), 7);
    }
}
