/** Promises 18 (link), 19 (ack), 20 (takeOver) and 21 (remote). */
public final class RemoteTest {
    private static final int COMES = 0;
    private static final int IS_LOST = 1;
    private static final int IS_DOUBLED = 2;
    private static final int IS_SENT = 3;

    public static void main(String[] args) {
        Checks checks = new Checks();
        comesInAnyOrder(checks);
        orderOfLetters(checks);
        fullLink(checks);
        wrongLinks(checks);
        linkWhileDown(checks);
        oldLettersAgain(checks);
        acknowledges(checks);
        takesOver(checks);
        takesOverAmidARollback(checks);
        takesOverAmidTheHousesCycle(checks);
        takesOverWhatWasDropped(checks);
        doesNothingMore(checks);
        sameFiles(checks);
        checks.finish();
    }

    private static void comesInAnyOrder(Checks checks) {
        JournalHouse house = Houses.withFiles(2);
        Houses.commitAll(house, 1, 2, 3);
        house.link(5, IS_SENT);
        house.link(3, IS_SENT);
        house.link(2, IS_SENT);
        house.link(1, IS_SENT);
        checks.same("the fifth comes", house.link(0, COMES), 3);
        checks.same("applied", house.ack(), 0);
        checks.same("remote", house.remote(0, 0), 0);
        house.link(2, COMES);
        checks.same("applied", house.ack(), 1);
        checks.same("remote", house.remote(0, 0), 1);
        house.link(0, COMES);
        checks.same("applied", house.ack(), 1);
        house.link(0, COMES);
        checks.same("two are next in line", house.ack(), 3);
        checks.same("remote", house.remote(0, 0), 2);
        house.link(4, IS_SENT);
        house.link(0, COMES);
        checks.same("the fifth was kept", house.ack(), 5);
        checks.same("remote", house.remote(0, 0), 3);
    }

    private static void orderOfLetters(Checks checks) {
        JournalHouse house = Houses.withFiles(1);
        Houses.commitAll(house, 1, 2);
        checks.same("sent", house.link(1, IS_SENT), 1);
        checks.same("sent", house.link(2, IS_SENT), 2);
        checks.same("sent", house.link(3, IS_SENT), 3);
        checks.same("the first is doubled", house.link(0, IS_DOUBLED), 4);
        checks.same("the first is lost", house.link(0, IS_LOST), 3);
        checks.same("nothing came", house.ack(), 0);
        checks.same("the double is the last one", house.link(2, COMES), 2);
        checks.same("it came", house.ack(), 1);
        checks.same("the middle one moved up", house.link(0, COMES), 1);
        checks.same("it came", house.ack(), 2);
        checks.same("the rest", house.link(0, COMES), 0);
        checks.same("it came", house.ack(), 3);
    }

    private static void fullLink(Checks checks) {
        JournalHouse house = Houses.withFiles(1);
        Houses.commitAll(house, 1);
        for (int n = 1; n <= 15; n++) {
            checks.same("sent", house.link(1, IS_SENT), n);
        }
        checks.same("a sixteenth", house.link(14, IS_DOUBLED), 16);
        checks.wrongState("a seventeenth", () -> house.link(1, IS_SENT));
        checks.wrongState("a doubled one", () -> house.link(0, IS_DOUBLED));
        checks.wrongArgument("no such letter", () -> house.link(16, IS_DOUBLED));
        checks.wrongArgument("no such entry", () -> house.link(3, IS_SENT));
        house.cut(0);
        checks.wrongState("a doubled one while down", () -> house.link(0, IS_DOUBLED));
        house.start();
        checks.same("one is lost", house.link(15, IS_LOST), 15);
        checks.same("one more", house.link(2, IS_SENT), 16);
        checks.same("the last comes", house.link(15, COMES), 15);
        checks.same("the first comes", house.link(0, COMES), 14);
        checks.same("applied", house.ack(), 2);
    }

    private static void wrongLinks(Checks checks) {
        JournalHouse house = Houses.withFiles(1);
        Houses.commitAll(house, 1, 2, 3, 4);
        house.link(2, IS_SENT);
        for (int action : new int[] {-1, 4, Integer.MAX_VALUE, Integer.MIN_VALUE}) {
            checks.wrongArgument("action " + action, () -> house.link(0, action));
        }
        for (int letter : new int[] {-1, 1, 16, Integer.MAX_VALUE, Integer.MIN_VALUE}) {
            checks.wrongArgument("letter " + letter + " comes", () -> house.link(letter, COMES));
            checks.wrongArgument("letter " + letter + " is lost", () -> house.link(letter, IS_LOST));
            checks.wrongArgument("letter " + letter + " is doubled", () -> house.link(letter, IS_DOUBLED));
        }
        for (int entry : new int[] {-1, 0, 9, Integer.MAX_VALUE, Integer.MIN_VALUE}) {
            checks.wrongArgument("entry " + entry + " is sent", () -> house.link(entry, IS_SENT));
        }
        checks.same("one letter is there", house.link(0, IS_LOST), 0);
        Houses.dropReceiver(house, 0);
        checks.wrongArgument("a dropped entry is sent", () -> house.link(8, IS_SENT));
    }

    private static void linkWhileDown(Checks checks) {
        JournalHouse house = Houses.withFiles(1);
        Houses.commitAll(house, 6);
        house.link(1, IS_SENT);
        house.link(2, IS_SENT);
        house.cut(0);
        checks.wrongState("sent", () -> house.link(1, IS_SENT));
        checks.wrongArgument("no such entry", () -> house.link(3, IS_SENT));
        checks.same("doubled", house.link(0, IS_DOUBLED), 3);
        checks.same("comes", house.link(0, COMES), 2);
        checks.same("remote", house.remote(0, 0), 6);
        checks.same("lost", house.link(1, IS_LOST), 1);
        checks.wrongState("ack", house::ack);
        house.start();
        checks.same("ack", house.ack(), 1);
        checks.same("the other one comes", house.link(0, COMES), 0);
        checks.same("ack", house.ack(), 2);
    }

    private static void oldLettersAgain(Checks checks) {
        JournalHouse house = Houses.withFiles(1);
        Houses.commitAll(house, 1, 2, 3, 4);
        house.link(1, IS_SENT);
        house.link(0, IS_DOUBLED);
        house.link(0, COMES);
        for (int n = 2; n <= 8; n++) {
            house.link(n, IS_SENT);
            house.link(1, COMES);
        }
        house.ack();
        house.drop();
        checks.same("a letter of a dropped entry comes", house.link(0, COMES), 0);
        checks.same("it changes nothing", house.remote(0, 0), 4);
        checks.same("applied", house.ack(), 8);
    }

    private static void acknowledges(Checks checks) {
        JournalHouse house = Houses.withFiles(1);
        checks.same("at first", house.ack(), 0);
        Houses.commitAll(house, 1, 2);
        Houses.deliver(house, 1, 3);
        checks.same("ack", house.ack(), 3);
        checks.same("once more", house.ack(), 3);
        house.takeOver();
        checks.same("taken over", house.ack(), 3);
    }

    private static void takesOver(Checks checks) {
        JournalHouse house = Houses.withFiles(3);
        Houses.commit(house, 0, 0, 1);
        house.change(1, 0, 0, 2);
        house.change(2, 0, 1, 3);
        house.change(0, 0, 2, 4);
        house.change(1, 0, 0, 5);
        house.end(0, true);
        house.end(1, true);
        Houses.deliver(house, 1, 7);
        checks.same("remote", house.remote(0, 0), 5);
        checks.same("takeOver", house.takeOver(), 7);
        checks.same("job 1 was open at 7", house.remote(0, 0), 1);
        checks.same("job 2 was open at 7", house.remote(0, 1), 0);
        checks.same("job 0 had ended", house.remote(0, 2), 4);
        checks.same("the house itself goes on", house.get(0, 0), 5);
    }

    private static void takesOverAmidARollback(Checks checks) {
        JournalHouse house = Houses.withFiles(2);
        Houses.commit(house, 0, 0, 9);
        house.change(0, 0, 0, 1);
        house.change(0, 0, 1, 2);
        house.change(0, 0, 0, 3);
        house.end(0, false);
        Houses.deliver(house, 1, 6);
        checks.same("remote amid the rollback", house.remote(0, 0), 1);
        checks.same("takeOver", house.takeOver(), 6);
        checks.same("all as before", house.remote(0, 0), 9);
        checks.same("all as before", house.remote(0, 1), 0);
    }

    private static void takesOverAmidTheHousesCycle(Checks checks) {
        JournalHouse house = Houses.withFiles(2);
        house.change(0, 0, 0, 1);
        house.change(0, 0, 1, 2);
        house.end(0, true);
        house.remove(0, 0);
        Houses.deliver(house, 1, 4);
        checks.same("remote", house.remote(0, 0), 0);
        checks.same("takeOver", house.takeOver(), 4);
        checks.same("all as before", house.remote(0, 0), 1);
        JournalHouse other = Houses.withFiles(1);
        Houses.commitAll(other, 1);
        other.remove(0, 0);
        Houses.deliver(other, 1, 4);
        checks.same("takeOver behind the COMMIT", other.takeOver(), 4);
        checks.same("nothing is open", other.remote(0, 0), 0);
    }

    private static void takesOverWhatWasDropped(Checks checks) {
        JournalHouse house = Houses.withFiles(1);
        Houses.commitAll(house, 1, 2, 3);
        house.change(1, 0, 0, 4);
        house.change(1, 0, 0, 5);
        house.end(1, true);
        Houses.dropReceiver(house, 0);
        house.link(9, IS_SENT);
        house.link(0, IS_LOST);
        checks.same("takeOver", house.takeOver(), 8);
        checks.same("the cycle without its COMMIT", house.remote(0, 0), 3);
    }

    private static void doesNothingMore(Checks checks) {
        JournalHouse house = Houses.withFiles(1);
        Houses.commitAll(house, 1);
        house.change(0, 0, 0, 2);
        Houses.deliver(house, 1, 3);
        house.link(3, IS_SENT);
        house.end(0, true);
        house.cut(0);
        checks.same("takeOver while down", house.takeOver(), 3);
        checks.same("remote", house.remote(0, 0), 1);
        checks.same("an old letter comes", house.link(0, COMES), 0);
        house.start();
        Houses.deliver(house, 3, 4);
        checks.same("it applies nothing more", house.ack(), 3);
        checks.same("takeOver again", house.takeOver(), 3);
        checks.same("remote as it was", house.remote(0, 0), 1);
        checks.same("letters still leave the link", house.link(4, IS_SENT), 1);
        checks.same("by coming", house.link(0, COMES), 0);
    }

    private static void sameFiles(Checks checks) {
        JournalHouse house = Houses.withFiles(2);
        checks.same("at first", house.remote(0, 1), 0);
        checks.same("no record", house.remote(0, 2), JournalHouse.NONE);
        checks.same("no file", house.remote(1, 0), JournalHouse.NONE);
        house.takeOver();
        house.file(1);
        checks.same("a new file", house.remote(1, 0), 0);
        Houses.commit(house, 1, 0, 5);
        checks.same("not before a letter came", house.remote(1, 0), 0);
    }
}
