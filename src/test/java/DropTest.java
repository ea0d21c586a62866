/** Promise 15: drop. */
public final class DropTest {
    public static void main(String[] args) {
        Checks checks = new Checks();
        drops(checks);
        notFull(checks);
        openCycle(checks);
        openCycleOfEachJob(checks);
        notAcknowledged(checks);
        makesRoom(checks);
        allReceivers(checks);
        whileDown(checks);
        checks.finish();
    }

    private static void drops(Checks checks) {
        JournalHouse house = Houses.withFiles(1);
        Houses.commitAll(house, 1, 2, 3, 4, 5, 6, 7, 8);
        Houses.deliver(house, 1, 16);
        checks.same("ack", house.ack(), 16);
        checks.same("disk", house.disk(0, 0), 0);
        checks.same("first", house.drop(), 1);
        checks.same("all that waits lands", house.disk(0, 0), 8);
        checks.same("the first one", house.entry(8, 0), JournalHouse.NONE);
        checks.same("the second one", house.entry(9, 0), 1);
        checks.same("second", house.drop(), 2);
        checks.wrongState("there is no third", house::drop);
        checks.same("last", house.last(), 16);
        checks.same("none waits", house.cut(0), 0);
        house.start();
        checks.same("a record without kept changes is as on the disk", house.get(0, 0), 8);
    }

    private static void notFull(Checks checks) {
        JournalHouse house = Houses.withFiles(1);
        Houses.commitAll(house, 1, 2, 3);
        house.change(0, 0, 0, 4);
        Houses.deliver(house, 1, 7);
        house.ack();
        checks.wrongState("seven entries", house::drop);
        house.end(0, true);
        Houses.deliver(house, 8, 8);
        house.ack();
        checks.same("eight entries", house.drop(), 1);
    }

    private static void openCycleOfEachJob(Checks checks) {
        for (int job = 0; job <= 2; job++) {
            JournalHouse house = Houses.withFiles(2);
            Houses.commitAll(house, 1, 2, 3);
            house.change((job + 1) % 3, 0, 0, 4);
            house.change(job, 0, 1, 5);
            house.end((job + 1) % 3, true);
            Houses.deliver(house, 1, 9);
            house.ack();
            checks.wrongState("job " + job + " began in it", house::drop);
            house.end(job, true);
            checks.same("no cycle is open", house.drop(), 1);
        }
    }

    private static void openCycle(Checks checks) {
        JournalHouse house = Houses.withFiles(2);
        Houses.commitAll(house, 1, 2, 3);
        house.change(0, 0, 0, 4);
        house.change(2, 0, 1, 5);
        house.end(0, true);
        house.change(1, 0, 0, 6);
        Houses.deliver(house, 1, 10);
        house.ack();
        checks.wrongState("job 2 began in it", house::drop);
        checks.same("nothing landed", house.disk(0, 0), 0);
        checks.same("nothing was dropped", house.entry(1, 0), 1);
        house.end(2, true);
        checks.same("job 1 began behind it", house.drop(), 1);
        house.end(1, false);
        checks.same("and can be rolled back", house.get(0, 0), 4);
    }

    private static void notAcknowledged(Checks checks) {
        JournalHouse house = Houses.withFiles(1);
        Houses.commitAll(house, 1, 2, 3, 4);
        Houses.deliver(house, 1, 7);
        house.ack();
        checks.wrongState("the eighth is not there", house::drop);
        Houses.deliver(house, 8, 8);
        checks.wrongState("the house does not know it", house::drop);
        house.ack();
        checks.same("now it knows", house.drop(), 1);
    }

    private static void makesRoom(Checks checks) {
        JournalHouse house = Houses.withFiles(1);
        for (int n = 1; n <= 23; n++) {
            house.change(0, 0, 0, n);
        }
        house.end(0, true);
        checks.same("last", house.last(), 24);
        for (int n = 1; n <= 11; n++) {
            Houses.commitAll(house, n);
        }
        checks.wrongState("at 46 of 48", () -> house.change(0, 0, 0, 1));
        Houses.dropReceiver(house, 0);
        for (int n = 47; n <= 50; n++) {
            checks.same("of 56", house.change(0, 0, 0, n), n);
        }
        checks.wrongState("not a fifth and its way back", () -> house.change(0, 0, 0, 5));
        checks.same("rolled back", house.end(0, false), 55);
    }

    private static void allReceivers(Checks checks) {
        JournalHouse house = Houses.withFiles(1);
        for (int receiver = 0; receiver < 14; receiver++) {
            Houses.commitAll(house, 1, 2, 3, 4);
            Houses.dropReceiver(house, receiver);
        }
        house.change(0, 0, 0, 5);
        house.change(0, 0, 0, 6);
        house.end(0, true);
        checks.same("three entries", house.last(), 115);
        house.change(0, 0, 0, 7);
        house.change(0, 0, 0, 8);
        checks.same("as much room as the reserve", house.end(0, false), 120);
        checks.same("the last entry", house.entry(120, 0), 3);
        checks.yes("boundary", house.boundary(0, 120));
        checks.wrongState("a change", () -> house.change(0, 0, 0, 9));
        Houses.deliver(house, 113, 120);
        checks.same("ack", house.ack(), 120);
        checks.same("the last receiver", house.drop(), 15);
        checks.wrongState("there is no more", house::drop);
        checks.wrongState("nor is there room", () -> house.change(0, 0, 0, 9));
        checks.same("save", house.save(0, 0), 120);
        checks.same("restore", house.restore(0), 0);
        checks.same("remote", house.remote(0, 0), 6);
        checks.same("takeOver", house.takeOver(), 120);
        house.cut(0);
        checks.same("start", house.start(), 120);
        checks.same("get", house.get(0, 0), 6);
    }

    private static void whileDown(Checks checks) {
        JournalHouse house = Houses.withFiles(1);
        Houses.commitAll(house, 1, 2, 3, 4);
        Houses.deliver(house, 1, 8);
        house.ack();
        house.cut(0);
        checks.wrongState("drop while down", house::drop);
        checks.same("disk as it was", house.disk(0, 0), 0);
        house.start();
        checks.same("drop, as the house still knows it", house.drop(), 1);
    }
}
