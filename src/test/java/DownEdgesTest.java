/**
 * "While the house is down, all calls that can throw IllegalStateException do so (behind what is said of their
 * arguments), but start, and link for what is on it (not for sending)."
 */
public final class DownEdgesTest {
    private static final int MIN = Integer.MIN_VALUE;
    private static final int MAX = Integer.MAX_VALUE;

    private final Checks checks = new Checks();
    private final Refusals refusals = new Refusals(checks);

    public static void main(String[] args) {
        DownEdgesTest test = new DownEdgesTest();
        test.allIsPossibleBeforeTheCut();
        test.refusedWhileDown();
        test.theHouseIsNotTold();
        test.argumentsComeFirst();
        test.argumentsOfCut();
        test.argumentsOfLink();
        test.sendingIsRefused();
        test.whatIsOnTheLink();
        test.aFullLink();
        test.readingWhileDown();
        test.startWhileDown();
        test.checks.finish();
    }

    /**
     * Each call that is refused below would do something if the house were up: file 0 has the number 2, file 1
     * has a copy, job 1 has a cycle on file 1, a receiver can be dropped, and 1 and 9 are on the link.
     */
    private static JournalHouse up() {
        JournalHouse house = Houses.withFiles(2, 2);
        house.save(1, 1);
        Houses.commitAll(house, 1, 2, 3, 4);
        house.save(0, 0);
        Houses.deliver(house, 1, 8);
        house.ack();
        house.remove(0, 2);
        house.change(1, 1, 1, 5);
        Houses.deliver(house, 9, 9);
        house.link(1, 3);
        house.link(9, 3);
        return house;
    }

    private static JournalHouse down() {
        JournalHouse house = up();
        house.cut(2);
        return house;
    }

    private void allIsPossibleBeforeTheCut() {
        checks.same("file", up().file(1), 2);
        checks.same("change", up().change(0, 0, 0, 9), 12);
        checks.same("commit", up().end(1, true), 12);
        checks.same("rollback", up().end(1, false), 13);
        checks.same("save", up().save(0, 2), 11);
        checks.same("restore", up().restore(0), 1);
        checks.same("apply", up().apply(0, 8), 1);
        checks.same("remove", up().remove(0, 0), 1);
        checks.same("drop", up().drop(), 1);
        checks.same("cut", up().cut(6), 0);
        checks.same("ack", up().ack(), 9);
        checks.same("send", up().link(11, 3), 3);
    }

    private void refusedWhileDown() {
        refusals.wrongState("file", DownEdgesTest::down, house -> house.file(1));
        refusals.wrongState("change", DownEdgesTest::down, house -> house.change(0, 0, 0, 9));
        refusals.wrongState("change in its cycle", DownEdgesTest::down, house -> house.change(1, 1, 1, 9));
        refusals.wrongState("commit", DownEdgesTest::down, house -> house.end(1, true));
        refusals.wrongState("rollback", DownEdgesTest::down, house -> house.end(1, false));
        refusals.wrongState("save", DownEdgesTest::down, house -> house.save(0, 2));
        refusals.wrongState("restore", DownEdgesTest::down, house -> house.restore(0));
        refusals.wrongState("restore of nothing", DownEdgesTest::down, house -> house.restore(3));
        refusals.wrongState("apply", DownEdgesTest::down, house -> house.apply(0, 8));
        refusals.wrongState("remove", DownEdgesTest::down, house -> house.remove(0, 0));
        refusals.wrongState("drop", DownEdgesTest::down, JournalHouse::drop);
        refusals.wrongState("cut", DownEdgesTest::down, house -> house.cut(0));
        refusals.wrongState("ack", DownEdgesTest::down, JournalHouse::ack);
    }

    /** An ack that was refused is none: the receiver that the remote has can't be dropped. */
    private void theHouseIsNotTold() {
        refusals.wrongState("ack", () -> {
            JournalHouse house = Houses.withFiles(1);
            Houses.commitAll(house, 1, 2, 3, 4);
            Houses.deliver(house, 1, 8);
            house.cut(0);
            return house;
        }, JournalHouse::ack);
    }

    /** "(behind what is said of their arguments)" */
    private void argumentsComeFirst() {
        for (int records : new int[] {0, 9, MIN, MAX}) {
            refusals.wrongArgument("file(" + records + ")", DownEdgesTest::down, house -> house.file(records));
        }
        for (int job : new int[] {-1, 3, MIN, MAX}) {
            refusals.wrongArgument("change by job " + job, DownEdgesTest::down, house -> house.change(job, 0, 0, 9));
            refusals.wrongArgument("end of job " + job, DownEdgesTest::down, house -> house.end(job, true));
        }
        for (int file : new int[] {-1, 2, MIN, MAX}) {
            refusals.wrongArgument("change of " + file, DownEdgesTest::down, house -> house.change(0, file, 0, 9));
            refusals.wrongArgument("save of " + file, DownEdgesTest::down, house -> house.save(file, 2));
            refusals.wrongArgument("apply to " + file, DownEdgesTest::down, house -> house.apply(file, 8));
            refusals.wrongArgument("remove of " + file, DownEdgesTest::down, house -> house.remove(file, 0));
        }
        for (int record : new int[] {-1, 2, MIN, MAX}) {
            refusals.wrongArgument("change of record " + record, DownEdgesTest::down,
                    house -> house.change(0, 0, record, 9));
        }
        for (int slot : new int[] {-1, 4, MIN, MAX}) {
            refusals.wrongArgument("save in " + slot, DownEdgesTest::down, house -> house.save(0, slot));
            refusals.wrongArgument("restore of " + slot, DownEdgesTest::down, house -> house.restore(slot));
        }
        for (int number : new int[] {-1, MIN}) {
            refusals.wrongArgument("remove to " + number, DownEdgesTest::down, house -> house.remove(0, number));
            refusals.wrongState("apply to " + number, DownEdgesTest::down, house -> house.apply(0, number));
        }
    }

    /** What waited was lost, so there are not so many for any n above 0. */
    private void argumentsOfCut() {
        for (int n : new int[] {-1, 1, 4, 24, 25, MIN, MAX}) {
            refusals.wrongArgument("cut(" + n + ")", DownEdgesTest::down, house -> house.cut(n));
        }
    }

    private void argumentsOfLink() {
        for (int action : new int[] {-1, 4, MIN, MAX}) {
            refusals.wrongArgument("action " + action, DownEdgesTest::down, house -> house.link(0, action));
        }
        for (int action = 0; action <= 2; action++) {
            int which = action;
            for (int letter : new int[] {-1, 2, MIN, MAX}) {
                refusals.wrongArgument("letter " + letter, DownEdgesTest::down, house -> house.link(letter, which));
            }
        }
        for (int entry : new int[] {-1, 0, 12, MIN, MAX}) {
            refusals.wrongArgument("entry " + entry, DownEdgesTest::down, house -> house.link(entry, 3));
        }
    }

    /** "(not for sending)" */
    private void sendingIsRefused() {
        for (int entry : new int[] {1, 2, 11}) {
            refusals.wrongState("entry " + entry, DownEdgesTest::down, house -> house.link(entry, 3));
        }
    }

    /** "link for what is on it" */
    private void whatIsOnTheLink() {
        JournalHouse comes = Houses.withFiles(1);
        Houses.commitAll(comes, 5);
        comes.link(1, 3);
        comes.cut(0);
        checks.same("doubled", comes.link(0, 2), 2);
        checks.same("lost", comes.link(0, 1), 1);
        checks.same("nothing came", comes.remote(0, 0), 0);
        checks.same("comes", comes.link(0, 0), 0);
        checks.same("it came", comes.remote(0, 0), 5);
        comes.start();
        checks.same("ack", comes.ack(), 1);
    }

    private void aFullLink() {
        refusals.wrongState("a seventeenth", DownEdgesTest::fullAndDown, full -> full.link(0, 2));
        checks.same("a letter comes", fullAndDown().link(15, 0), 15);
        JournalHouse house = fullAndDown();
        checks.same("a letter is lost", house.link(0, 1), 15);
        checks.same("a sixteenth", house.link(14, 2), 16);
    }

    private static JournalHouse fullAndDown() {
        JournalHouse house = down();
        for (int letters = 2; letters < 16; letters++) {
            house.link(0, 2);
        }
        return house;
    }

    /** Calls that can't throw answer as before; get alone has NONE. */
    private void readingWhileDown() {
        JournalHouse house = down();
        for (int file = 0; file <= 1; file++) {
            for (int record = 0; record <= 1; record++) {
                checks.same("get", house.get(file, record), JournalHouse.NONE);
            }
        }
        checks.same("disk", house.disk(0, 0), 2);
        checks.same("number", house.number(0), 2);
        checks.same("number of a live one", house.number(1), -1);
        checks.same("last", house.last(), 11);
        checks.yes("boundary", house.boundary(0, 11));
        checks.no("no boundary", house.boundary(1, 11));
        Houses.dueEntry(checks, house, 11, 1, 1, 1, 1, 0, 5);
        checks.same("remote", house.remote(0, 0), 1);
        checks.same("takeOver", house.takeOver(), 9);
        checks.same("remote", house.remote(0, 0), 4);
    }

    private void startWhileDown() {
        JournalHouse house = down();
        checks.same("start", house.start(), 13);
        checks.same("get", house.get(0, 0), 1);
        checks.same("file", house.file(1), 2);
        refusals.wrongState("start once more", () -> {
            JournalHouse started = down();
            started.start();
            return started;
        }, JournalHouse::start);
    }
}
