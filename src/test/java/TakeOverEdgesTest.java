/** The edges of promise 20 (takeOver), and of what the remote house does then. */
public final class TakeOverEdgesTest {
    private final Checks checks = new Checks();

    public static void main(String[] args) {
        TakeOverEdgesTest test = new TakeOverEdgesTest();
        test.withNothingApplied();
        test.noCycleWasOpen();
        test.atEachNumberOfACycle();
        test.atEachNumberOfARollback();
        test.atEachNumberOfTheHousesCycle();
        test.theNewestOfAllFirst();
        test.onlyWhatItHasApplied();
        test.anOlderCycleOfTheJob();
        test.aCycleThatHasEndedSince();
        test.whatWasDropped();
        test.lettersComeToNothing();
        test.theGapIsNotFilled();
        test.itStaysSo();
        test.theHouseGoesOn();
        test.whileDown();
        test.checks.finish();
    }

    private void withNothingApplied() {
        JournalHouse none = new JournalHouse();
        checks.same("takeOver of a new house", none.takeOver(), 0);
        JournalHouse house = Houses.withFiles(1);
        Houses.commitAll(house, 5);
        checks.same("takeOver", house.takeOver(), 0);
        checks.same("remote", house.remote(0, 0), 0);
    }

    private void noCycleWasOpen() {
        JournalHouse house = Houses.withFiles(1);
        Houses.commitAll(house, 5, 6);
        Houses.deliver(house, 1, 4);
        checks.same("takeOver", house.takeOver(), 4);
        checks.same("remote", house.remote(0, 0), 6);
    }

    /** "for each cycle that was open just after the number that it has applied, all changes are as before" */
    private void atEachNumberOfACycle() {
        for (int applied = 2; applied <= 6; applied++) {
            JournalHouse house = Houses.withFiles(2);
            Houses.commitAll(house, 5);
            house.change(1, 0, 0, 6);
            house.change(1, 0, 1, 7);
            house.change(1, 0, 0, 8);
            house.end(1, true);
            Houses.deliver(house, 1, applied);
            checks.same("takeOver", house.takeOver(), applied);
            checks.same("record 0 at " + applied, house.remote(0, 0), applied == 6 ? 8 : 5);
            checks.same("record 1 at " + applied, house.remote(0, 1), applied == 6 ? 7 : 0);
        }
    }

    private void atEachNumberOfARollback() {
        for (int applied = 2; applied <= 9; applied++) {
            JournalHouse house = Houses.withFiles(2);
            Houses.commitAll(house, 5);
            house.change(1, 0, 0, 6);
            house.change(1, 0, 1, 7);
            house.change(1, 0, 0, 8);
            house.end(1, false);
            Houses.deliver(house, 1, applied);
            house.takeOver();
            checks.same("record 0 at " + applied, house.remote(0, 0), 5);
            checks.same("record 1 at " + applied, house.remote(0, 1), 0);
        }
    }

    /** "the cycles of the house itself, too, are open in between" */
    private void atEachNumberOfTheHousesCycle() {
        for (int applied = 3; applied <= 6; applied++) {
            JournalHouse house = Houses.withFiles(2);
            house.change(0, 0, 0, 5);
            house.change(0, 0, 1, 6);
            house.end(0, true);
            house.remove(0, 0);
            Houses.deliver(house, 1, applied);
            house.takeOver();
            checks.same("record 0 at " + applied, house.remote(0, 0), applied == 6 ? 0 : 5);
            checks.same("record 1 at " + applied, house.remote(0, 1), applied == 6 ? 0 : 6);
        }
    }

    /** "the newest of all first": three cycles at once, and each record is as before its first change. */
    private void theNewestOfAllFirst() {
        JournalHouse house = Houses.withFiles(3, 3);
        for (int job = 0; job <= 2; job++) {
            house.change(job, 0, job, 10 + job);
            house.change(job, 1, job, 20 + job);
        }
        for (int job = 2; job >= 0; job--) {
            house.change(job, 0, job, 30 + job);
        }
        house.end(1, true);
        Houses.deliver(house, 1, 10);
        house.takeOver();
        for (int job = 0; job <= 2; job++) {
            checks.same("file 0, job " + job, house.remote(0, job), job == 1 ? 31 : 0);
            checks.same("file 1, job " + job, house.remote(1, job), job == 1 ? 21 : 0);
        }
    }

    private void onlyWhatItHasApplied() {
        JournalHouse house = Houses.withFiles(2);
        house.change(0, 0, 0, 1);
        house.change(1, 0, 1, 2);
        house.end(1, true);
        house.change(0, 0, 1, 3);
        Houses.deliver(house, 1, 1);
        Houses.deliver(house, 3, 4);
        checks.same("takeOver", house.takeOver(), 1);
        checks.same("what came", house.remote(0, 0), 0);
        checks.same("a change that was not applied is not undone", house.remote(0, 1), 0);
    }

    private void anOlderCycleOfTheJob() {
        JournalHouse house = Houses.withFiles(2);
        Houses.commit(house, 0, 0, 1);
        house.change(0, 0, 1, 2);
        Houses.deliver(house, 1, 3);
        house.takeOver();
        checks.same("the older cycle", house.remote(0, 0), 1);
        checks.same("the open one", house.remote(0, 1), 0);
    }

    private void aCycleThatHasEndedSince() {
        JournalHouse house = Houses.withFiles(1);
        Houses.commitAll(house, 5);
        Houses.deliver(house, 1, 1);
        checks.same("takeOver", house.takeOver(), 1);
        checks.same("it was open just after 1", house.remote(0, 0), 0);
        checks.same("the house has it committed", house.get(0, 0), 5);
    }

    private void whatWasDropped() {
        JournalHouse house = Houses.withFiles(1);
        Houses.commitAll(house, 1, 2, 3);
        Houses.change(house, 1, 0, 0, 2);
        house.end(1, true);
        Houses.dropReceiver(house, 0);
        checks.same("takeOver", house.takeOver(), 8);
        checks.same("entries 7 and 8 are kept no more", house.remote(0, 0), 3);
    }

    /** "It does nothing more, when it has TAKEN OVER" */
    private void lettersComeToNothing() {
        JournalHouse house = Houses.withFiles(1);
        Houses.commitAll(house, 5, 6);
        Houses.deliver(house, 1, 2);
        house.link(3, 3);
        house.takeOver();
        checks.same("a letter comes, and is gone", house.link(0, 0), 0);
        checks.same("ack", house.ack(), 2);
        checks.same("remote", house.remote(0, 0), 5);
        Houses.deliver(house, 1, 4);
        checks.same("ack", house.ack(), 2);
        checks.same("remote", house.remote(0, 0), 5);
    }

    private void theGapIsNotFilled() {
        JournalHouse house = Houses.withFiles(1);
        Houses.commitAll(house, 5, 6);
        Houses.deliver(house, 2, 4);
        checks.same("takeOver", house.takeOver(), 0);
        Houses.deliver(house, 1, 1);
        checks.same("ack", house.ack(), 0);
        checks.same("takeOver again", house.takeOver(), 0);
        checks.same("remote", house.remote(0, 0), 0);
    }

    /** "(it stays so ...)" */
    private void itStaysSo() {
        JournalHouse house = Houses.withFiles(1);
        Houses.commitAll(house, 5);
        house.change(0, 0, 0, 6);
        Houses.deliver(house, 1, 3);
        checks.same("takeOver", house.takeOver(), 3);
        checks.same("remote", house.remote(0, 0), 5);
        house.end(0, true);
        house.cut(0);
        house.start();
        checks.same("once more", house.takeOver(), 3);
        checks.same("remote", house.remote(0, 0), 5);
        Houses.deliver(house, 4, 4);
        checks.same("and once more", house.takeOver(), 3);
        checks.same("remote", house.remote(0, 0), 5);
    }

    private void theHouseGoesOn() {
        JournalHouse house = Houses.withFiles(1);
        house.change(0, 0, 0, 5);
        Houses.deliver(house, 1, 1);
        house.takeOver();
        checks.same("get", house.get(0, 0), 5);
        checks.same("its cycle is open", house.end(0, true), 2);
        checks.same("another change", house.change(1, 0, 0, 6), 3);
        checks.same("a new file", house.file(1), 1);
        checks.same("of the remote, too", house.remote(1, 0), 0);
        for (int letters = 1; letters <= 16; letters++) {
            checks.same("a letter", house.link(1, 3), letters);
        }
        checks.wrongState("a seventeenth", () -> house.link(1, 3));
    }

    /** "the other one may be up or down" */
    private void whileDown() {
        JournalHouse house = Houses.withFiles(1);
        Houses.commitAll(house, 5);
        house.change(2, 0, 0, 6);
        Houses.deliver(house, 1, 3);
        house.link(3, 3);
        house.cut(1);
        checks.same("takeOver", house.takeOver(), 3);
        checks.same("remote", house.remote(0, 0), 5);
        checks.same("a letter comes", house.link(0, 0), 0);
        checks.same("remote", house.remote(0, 0), 5);
        checks.same("start", house.start(), 5);
        checks.same("get", house.get(0, 0), 5);
        checks.same("ack", house.ack(), 3);
    }
}
