/** Promise 6: end. */
public final class EndTest {
    public static void main(String[] args) {
        Checks checks = new Checks();
        commits(checks);
        rollsBack(checks);
        wrongCalls(checks);
        checks.finish();
    }

    private static void commits(Checks checks) {
        JournalHouse house = Houses.withFiles(2);
        house.change(1, 0, 0, 8);
        house.change(1, 0, 1, 9);
        checks.same("commit", house.end(1, true), 3);
        checks.same("kind", house.entry(3, 0), 2);
        checks.same("job", house.entry(3, 1), 1);
        checks.same("get", house.get(0, 0), 8);
        checks.same("a COMMIT is no record write", house.cut(0), 2);
    }

    private static void rollsBack(Checks checks) {
        JournalHouse house = Houses.withFiles(2, 1);
        Houses.commit(house, 0, 0, 1);
        house.change(2, 0, 0, 10);
        house.change(1, 0, 1, 50);
        house.change(2, 1, 0, 20);
        house.change(2, 0, 0, 30);
        checks.same("rollback", house.end(2, false), 10);
        int[][] due = {{7, 0, 0, 30, 10}, {8, 1, 0, 20, 0}, {9, 0, 0, 10, 1}};
        for (int[] d : due) {
            checks.same("kind", house.entry(d[0], 0), 1);
            checks.same("job", house.entry(d[0], 1), 2);
            for (int what = 2; what <= 5; what++) {
                checks.same("entry " + d[0] + " " + what, house.entry(d[0], what), d[what - 1]);
            }
        }
        checks.same("kind of the end", house.entry(10, 0), 3);
        checks.same("job of the end", house.entry(10, 1), 2);
        checks.same("record that came back", house.get(0, 0), 1);
        checks.same("record of the other file", house.get(1, 0), 0);
        checks.same("record of another job", house.get(0, 1), 50);
        checks.wrongState("another job's cycle is still open", () -> house.save(0, 0));
        checks.same("each change is a record write", house.cut(0), 8);
    }

    private static void wrongCalls(Checks checks) {
        JournalHouse house = Houses.withFiles(1);
        for (int job : new int[] {-1, 3, Integer.MAX_VALUE, Integer.MIN_VALUE}) {
            checks.wrongArgument("job " + job, () -> house.end(job, true));
            checks.wrongArgument("job " + job, () -> house.end(job, false));
        }
        checks.wrongState("no cycle to commit", () -> house.end(0, true));
        checks.wrongState("no cycle to roll back", () -> house.end(0, false));
        house.change(0, 0, 0, 1);
        checks.wrongState("another job has none", () -> house.end(1, true));
        house.end(0, false);
        checks.wrongState("it is over", () -> house.end(0, false));
        house.change(0, 0, 0, 1);
        house.cut(0);
        checks.wrongArgument("job 3 while down", () -> house.end(3, true));
        checks.wrongState("end while down", () -> house.end(0, true));
        house.start();
        checks.wrongState("the start ended it", () -> house.end(0, true));
        checks.same("last", house.last(), 6);
    }
}
