import java.util.function.Supplier;

/** The edges of the link and of what comes over it: "Terms", and promises 18 (link), 19 (ack) and 21 (remote). */
public final class LinkEdgesTest {
    private static final int COMES = 0;
    private static final int IS_LOST = 1;
    private static final int IS_DOUBLED = 2;
    private static final int IS_SENT = 3;
    private static final int LETTERS = 16;

    private final Checks checks = new Checks();
    private final Refusals refusals = new Refusals(checks);

    public static void main(String[] args) {
        LinkEdgesTest test = new LinkEdgesTest();
        test.actionsAreZeroToThree();
        test.noSuchLetter();
        test.noSuchLetterOnAFullLink();
        test.entriesThatAreKept();
        test.aSixteenthLetter();
        test.aSeventeenthLetter();
        test.argumentsComeBeforeTheRow();
        test.aFullLinkCanBeEmptied();
        test.theRowClosesUp();
        test.aDoubledLetterIsTheLast();
        test.aSentLetterIsTheLast();
        test.appliedIsZeroAtFirst();
        test.onlyTheNextInLine();
        test.allTheNextInLine();
        test.aLetterOnceMore();
        test.aLetterOfADroppedEntry();
        test.allEntriesCome();
        test.onlyAckTells();
        test.remoteFilesMadeLater();
        test.checks.finish();
    }

    /** Four entries, of which 3, 1 and 4 are on the link. */
    private static JournalHouse withLetters() {
        JournalHouse house = Houses.withFiles(1);
        Houses.commitAll(house, 5, 6);
        house.link(3, IS_SENT);
        house.link(1, IS_SENT);
        house.link(4, IS_SENT);
        return house;
    }

    private static JournalHouse withFullLink() {
        JournalHouse house = Houses.withFiles(1);
        Houses.commitAll(house, 1, 2, 3, 4, 5, 6, 7, 8, 9);
        for (int n = 1; n <= LETTERS; n++) {
            house.link(n, IS_SENT);
        }
        return house;
    }

    /** "IllegalArgumentException when action is not 0 .. 3" */
    private void actionsAreZeroToThree() {
        for (int action : new int[] {-1, 4, 5, Integer.MIN_VALUE, Integer.MAX_VALUE}) {
            for (int k = 0; k <= 1; k++) {
                int at = k;
                refusals.wrongArgument("action " + action, LinkEdgesTest::withLetters, house -> house.link(at, action));
            }
        }
        int[] due = {2, 2, 4, 4};
        for (int action = 0; action <= 3; action++) {
            checks.same("action " + action, withLetters().link(1, action), due[action]);
        }
    }

    /** "there is no such letter": "Letter k, from 0" */
    private void noSuchLetter() {
        for (int action = 0; action <= 2; action++) {
            int which = action;
            for (int k : new int[] {-1, 3, 4, 16, Integer.MIN_VALUE, Integer.MAX_VALUE}) {
                refusals.wrongArgument("letter " + k + " of three", LinkEdgesTest::withLetters,
                        house -> house.link(k, which));
            }
            refusals.wrongArgument("letter 0 of none", () -> Houses.withFiles(1), house -> house.link(0, which));
            checks.same("letter 0", withLetters().link(0, action), action == IS_DOUBLED ? 4 : 2);
            checks.same("letter 2", withLetters().link(2, action), action == IS_DOUBLED ? 4 : 2);
        }
    }

    private void noSuchLetterOnAFullLink() {
        for (int action = 0; action <= 2; action++) {
            int which = action;
            for (int k : new int[] {-1, 16, 17}) {
                refusals.wrongArgument("letter " + k + " of sixteen", LinkEdgesTest::withFullLink,
                        house -> house.link(k, which));
            }
        }
        checks.same("letter 15 comes", withFullLink().link(15, COMES), 15);
        checks.same("letter 15 is lost", withFullLink().link(15, IS_LOST), 15);
    }

    /** "or entry k is not kept" */
    private void entriesThatAreKept() {
        for (int entry : new int[] {-1, 0, 5, 6, 120, 121, Integer.MIN_VALUE, Integer.MAX_VALUE}) {
            refusals.wrongArgument("entry " + entry + " of four", LinkEdgesTest::withLetters,
                    house -> house.link(entry, IS_SENT));
        }
        checks.same("entry 1 of four", withLetters().link(1, IS_SENT), 4);
        checks.same("entry 4 of four", withLetters().link(4, IS_SENT), 4);
        refusals.wrongArgument("entry 1 of none", () -> Houses.withFiles(1), house -> house.link(1, IS_SENT));
        Supplier<JournalHouse> dropped = () -> Houses.withDropped(2, 1);
        refusals.wrongArgument("entry 16 of sixteen dropped", dropped, house -> house.link(16, IS_SENT));
        refusals.wrongArgument("entry 17, which is to come", dropped, house -> house.link(17, IS_SENT));
        JournalHouse house = dropped.get();
        house.change(0, 0, 0, 1);
        checks.same("entry 17", house.link(17, IS_SENT), 1);
    }

    /** "a row of at most 16" */
    private void aSixteenthLetter() {
        for (int action : new int[] {IS_DOUBLED, IS_SENT}) {
            JournalHouse house = Houses.withFiles(1);
            Houses.commitAll(house, 1);
            house.link(1, IS_SENT);
            for (int count = 2; count <= LETTERS; count++) {
                checks.same("letters", house.link(action == IS_SENT ? 2 : 0, action), count);
            }
        }
    }

    /** "IllegalStateException when there would be a seventeenth letter." */
    private void aSeventeenthLetter() {
        refusals.wrongState("entry 1", LinkEdgesTest::withFullLink, house -> house.link(1, IS_SENT));
        refusals.wrongState("entry 18", LinkEdgesTest::withFullLink, house -> house.link(18, IS_SENT));
        refusals.wrongState("letter 0 doubled", LinkEdgesTest::withFullLink, house -> house.link(0, IS_DOUBLED));
        refusals.wrongState("letter 15 doubled", LinkEdgesTest::withFullLink, house -> house.link(15, IS_DOUBLED));
    }

    private void argumentsComeBeforeTheRow() {
        refusals.wrongArgument("entry 19", LinkEdgesTest::withFullLink, house -> house.link(19, IS_SENT));
        refusals.wrongArgument("entry 0", LinkEdgesTest::withFullLink, house -> house.link(0, IS_SENT));
        refusals.wrongArgument("letter 16", LinkEdgesTest::withFullLink, house -> house.link(16, IS_DOUBLED));
        refusals.wrongArgument("action 4", LinkEdgesTest::withFullLink, house -> house.link(0, 4));
    }

    private void aFullLinkCanBeEmptied() {
        for (int action : new int[] {COMES, IS_LOST}) {
            JournalHouse house = withFullLink();
            checks.same("one less", house.link(0, action), 15);
            checks.same("room for one", house.link(17, IS_SENT), 16);
            checks.wrongState("not for two", () -> house.link(18, IS_SENT));
            for (int left = 15; left >= 0; left--) {
                checks.same("letters", house.link(left, action), left);
            }
            checks.wrongArgument("none is left", () -> house.link(0, action));
            checks.same("applied", house.ack(), action == COMES ? 17 : 0);
        }
    }

    private void theRowClosesUp() {
        for (int gone = 0; gone <= 2; gone++) {
            JournalHouse house = withLetters();
            house.link(gone, IS_LOST);
            house.link(2, IS_SENT);
            house.link(2, COMES);
            int[] left = gone == 0 ? new int[] {1, 4} : gone == 1 ? new int[] {3, 4} : new int[] {3, 1};
            dueLetters(house, 2, left);
        }
    }

    /** Which entries the letters are: each is taken off alone, and seen to bring its entry, where 2 has come. */
    private void dueLetters(JournalHouse house, int came, int... due) {
        boolean[] has = new boolean[6];
        has[came] = true;
        for (int entry : due) {
            has[entry] = true;
            house.link(0, COMES);
            int applied = 0;
            while (has[applied + 1]) {
                applied++;
            }
            checks.same("applied behind entry " + entry, house.ack(), applied);
        }
    }

    /** "is doubled (2: one more is the last one then)" */
    private void aDoubledLetterIsTheLast() {
        JournalHouse house = withLetters();
        checks.same("letter 1 is doubled", house.link(1, IS_DOUBLED), 4);
        checks.same("letter 3 comes", house.link(3, COMES), 3);
        checks.same("it was entry 1", house.ack(), 1);
        checks.same("letter 1 is still there", house.link(1, IS_LOST), 2);
        house.link(2, IS_SENT);
        house.link(2, COMES);
        checks.same("entry 2", house.ack(), 2);
        house.link(0, COMES);
        checks.same("entry 3", house.ack(), 3);
        house.link(0, COMES);
        checks.same("entry 4", house.ack(), 4);
    }

    /** "entry k is sent (3: it is the last letter then)" */
    private void aSentLetterIsTheLast() {
        JournalHouse house = withLetters();
        checks.same("entry 1 is sent again", house.link(1, IS_SENT), 4);
        checks.same("letter 3 comes", house.link(3, COMES), 3);
        checks.same("it was entry 1", house.ack(), 1);
        house.link(2, IS_SENT);
        checks.same("letter 3 comes", house.link(3, COMES), 3);
        checks.same("it was entry 2", house.ack(), 2);
    }

    /** "it has APPLIED entries up to a number, at first 0" */
    private void appliedIsZeroAtFirst() {
        JournalHouse house = withLetters();
        checks.same("ack", house.ack(), 0);
        checks.same("remote", house.remote(0, 0), 0);
        house.link(0, IS_LOST);
        checks.same("a lost letter is not applied", house.ack(), 0);
        checks.same("takeOver", house.takeOver(), 0);
        checks.same("remote", house.remote(0, 0), 0);
    }

    /** "the remote keeps it; then it applies the next ones in line, as long as it has them" */
    private void onlyTheNextInLine() {
        JournalHouse house = withLetters();
        house.link(0, COMES);
        checks.same("entry 3 alone", house.ack(), 0);
        checks.same("remote", house.remote(0, 0), 0);
        house.link(0, COMES);
        checks.same("and 1", house.ack(), 1);
        checks.same("remote", house.remote(0, 0), 5);
        house.link(0, COMES);
        checks.same("and 4", house.ack(), 1);
        checks.same("remote", house.remote(0, 0), 5);
    }

    private void allTheNextInLine() {
        JournalHouse house = withFullLink();
        for (int letter = 15; letter >= 1; letter--) {
            house.link(letter, COMES);
            checks.same("without entry 1", house.ack(), 0);
            checks.same("remote", house.remote(0, 0), 0);
        }
        house.link(0, COMES);
        checks.same("with entry 1", house.ack(), 16);
        checks.same("remote", house.remote(0, 0), 8);
    }

    private void aLetterOnceMore() {
        JournalHouse house = withFullLink();
        house.link(15, IS_LOST);
        house.link(0, IS_DOUBLED);
        for (int letter = 0; letter < 15; letter++) {
            house.link(0, COMES);
        }
        checks.same("applied", house.ack(), 15);
        checks.same("remote", house.remote(0, 0), 8);
        checks.same("entry 1 comes again", house.link(0, COMES), 0);
        checks.same("applied as it was", house.ack(), 15);
        checks.same("remote as it was", house.remote(0, 0), 8);
    }

    /** "LETTERS on the link are entries": one goes on when its receiver is dropped. */
    private void aLetterOfADroppedEntry() {
        JournalHouse house = Houses.withFiles(1);
        Houses.commitAll(house, 1, 2, 3, 4, 5);
        house.link(7, IS_SENT);
        Houses.dropReceiver(house, 0);
        checks.wrongArgument("it can't be sent", () -> house.link(7, IS_SENT));
        checks.same("but doubled", house.link(0, IS_DOUBLED), 2);
        checks.same("and it comes", house.link(0, COMES), 1);
        checks.same("to no effect", house.ack(), 8);
        checks.same("remote", house.remote(0, 0), 4);
    }

    private void allEntriesCome() {
        Supplier<JournalHouse> full = () -> Houses.withDropped(15, 1);
        refusals.wrongArgument("entry 120, which is dropped", full, house -> house.link(120, IS_SENT));
        refusals.wrongArgument("entry 121", full, house -> house.link(121, IS_SENT));
        checks.same("applied", full.get().ack(), 120);
        checks.same("takeOver", full.get().takeOver(), 120);
    }

    /** "The house gets to know what number the remote one has applied: that." */
    private void onlyAckTells() {
        JournalHouse house = Houses.withFiles(1);
        Houses.commitAll(house, 1, 2, 3, 4);
        for (int n = 1; n <= 8; n++) {
            Houses.deliver(house, n, n);
            if (n == 7) {
                checks.same("ack", house.ack(), 7);
            }
        }
        checks.wrongState("it knows of seven", house::drop);
        checks.same("ack", house.ack(), 8);
        checks.same("it knows of eight", house.drop(), 1);
    }

    /** "THE REMOTE HOUSE has the same files" */
    private void remoteFilesMadeLater() {
        JournalHouse house = Houses.withFiles(1);
        checks.same("before", house.remote(1, 0), JournalHouse.NONE);
        house.file(8);
        checks.same("behind", house.remote(1, 7), 0);
        checks.same("no ninth record", house.remote(1, 8), JournalHouse.NONE);
        Houses.commit(house, 1, 7, 5);
        checks.same("not before its letter came", house.remote(1, 7), 0);
        Houses.deliver(house, 1, 1);
        checks.same("its letter came", house.remote(1, 7), 5);
        house.cut(0);
        checks.same("while down", house.remote(1, 7), 5);
    }
}
