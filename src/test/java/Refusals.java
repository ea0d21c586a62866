import java.util.ArrayList;
import java.util.List;
import java.util.function.Supplier;

/**
 * "What throws leaves all as it was": a house that refused a call goes on, whatever is asked of it next, as
 * one that never got the call. What can't be read (what waits, letters, copies, limits, locks, what ack told)
 * shows in the sequels.
 */
final class Refusals {
    interface Call {
        long on(JournalHouse house);
    }

    private interface Sequel {
        void follow(Witness witness);
    }

    private static final int FILES = 3;
    private static final int RECORDS = 8;
    private static final int JOBS = 3;
    private static final int SLOTS = 4;
    private static final int WAITING = 24;
    private static final int LETTERS = 16;
    private static final int ENTRIES = 120;
    private static final int SIX_RECEIVERS = 48;
    /** What a sequel asks for stays below the calls that are left of 512 where a full journal took most. */
    private static final int ENTRIES_AT_ONCE = 20;
    private static final int NUMBERS_AT_ONCE = 60;

    private static final List<Sequel> SEQUELS = sequels();

    private final Checks checks;

    Refusals(Checks checks) {
        this.checks = checks;
    }

    void wrongArgument(String what, Supplier<JournalHouse> state, Call call) {
        checks.wrongArgument(what, () -> call.on(state.get()));
        leavesAll(what, state, call);
    }

    void wrongState(String what, Supplier<JournalHouse> state, Call call) {
        checks.wrongState(what, () -> call.on(state.get()));
        leavesAll(what, state, call);
    }

    private void leavesAll(String what, Supplier<JournalHouse> state, Call call) {
        for (int number = 0; number < SEQUELS.size(); number++) {
            Witness asked = new Witness(state.get());
            Witness neverAsked = new Witness(state.get());
            asked.tryOut(call);
            SEQUELS.get(number).follow(asked);
            SEQUELS.get(number).follow(neverAsked);
            int other = firstOther(asked.heard, neverAsked.heard);
            if (other >= 0) {
                checks.complain(what + " did not leave all as it was: answer " + other + " of sequel " + number
                        + " is " + asked.heard.get(other) + ", due is " + neverAsked.heard.get(other));
                return;
            }
        }
    }

    private static int firstOther(List<Long> got, List<Long> due) {
        for (int i = 0; i < Math.min(got.size(), due.size()); i++) {
            if (!got.get(i).equals(due.get(i))) {
                return i;
            }
        }
        return -1;
    }

    private static List<Sequel> sequels() {
        List<Sequel> plain = new ArrayList<>();
        plain.add(Refusals::readRecords);
        for (int from = 1; from <= ENTRIES; from += ENTRIES_AT_ONCE) {
            int first = from;
            plain.add(witness -> readEntries(witness, first));
        }
        for (int n = 0; n <= WAITING; n++) {
            int landing = n;
            plain.add(witness -> cutAndStart(witness, landing));
        }
        for (int job = 0; job < JOBS; job++) {
            int first = job;
            plain.add(witness -> changeAll(witness, first));
            plain.add(witness -> fillTheRoom(witness, first));
            plain.add(witness -> endAll(witness, first));
        }
        for (int file = 0; file < FILES; file++) {
            int which = file;
            plain.add(witness -> readBoundaries(witness, which));
            plain.add(witness -> applyTo(witness, which));
            plain.add(witness -> removeFrom(witness, which));
        }
        plain.add(Refusals::restoreAll);
        plain.add(Refusals::dropAll);
        plain.add(Refusals::letAllCome);
        plain.add(Refusals::fillTheLink);
        plain.add(Refusals::takeOver);
        plain.add(Refusals::makeFiles);
        List<Sequel> all = new ArrayList<>(plain);
        // While a house is down most calls tell nothing, so each sequel follows a start, too.
        for (Sequel sequel : plain) {
            all.add(witness -> {
                witness.hear(witness.house::start);
                sequel.follow(witness);
            });
        }
        return all;
    }

    private static void readRecords(Witness witness) {
        JournalHouse house = witness.house;
        for (int file = 0; file < FILES; file++) {
            for (int record = 0; record < RECORDS; record++) {
                witness.heard.add(house.get(file, record));
                witness.heard.add(house.disk(file, record));
                witness.heard.add(house.remote(file, record));
            }
        }
    }

    private static void readNumbers(Witness witness) {
        witness.heard.add((long) witness.house.last());
        for (int file = 0; file < FILES; file++) {
            witness.heard.add((long) witness.house.number(file));
        }
    }

    private static void readBoundaries(Witness witness, int file) {
        readNumbers(witness);
        int last = witness.house.last();
        for (int number = 0; number <= last + 1; number++) {
            witness.heard.add(witness.house.boundary(file, number) ? 1L : 0L);
        }
    }

    private static void readEntries(Witness witness, int from) {
        for (int number = from; number < from + ENTRIES_AT_ONCE; number++) {
            for (int what = 0; what <= 5; what++) {
                witness.heard.add(witness.house.entry(number, what));
            }
        }
    }

    private static void cutAndStart(Witness witness, int landing) {
        witness.hear(() -> witness.house.cut(landing));
        readRecords(witness);
        witness.hear(witness.house::start);
        readRecords(witness);
    }

    /** Locks show in what each job may change. */
    private static void changeAll(Witness witness, int firstJob) {
        for (int i = 0; i < JOBS; i++) {
            int job = (firstJob + i) % JOBS;
            for (int at = 0; at < FILES * RECORDS; at++) {
                int cell = at;
                witness.hear(() -> witness.house.change(job, cell / RECORDS, cell % RECORDS, 1000 + cell));
            }
        }
    }

    /** Room and reserve show in how often a job may change a record that is free for it. */
    private static void fillTheRoom(Witness witness, int job) {
        for (int at = 0; at < FILES * RECORDS; at++) {
            int cell = at;
            for (int times = 0; times < SIX_RECEIVERS && (times == 0 || !witness.wasRefused()); times++) {
                witness.hear(() -> witness.house.change(job, cell / RECORDS, cell % RECORDS, 7));
            }
        }
    }

    private static void endAll(Witness witness, int firstJob) {
        for (int i = 0; i < JOBS; i++) {
            int job = (firstJob + i) % JOBS;
            witness.hear(() -> witness.house.end(job, job == firstJob));
        }
        readRecords(witness);
        readNumbers(witness);
    }

    /** The greatest number that can be applied shows the limit. */
    private static void applyTo(Witness witness, int file) {
        int last = witness.house.last();
        for (int i = 0; i < NUMBERS_AT_ONCE; i++) {
            int number = last - i;
            witness.hear(() -> witness.house.apply(file, number));
        }
        readRecords(witness);
        readNumbers(witness);
    }

    private static void removeFrom(Witness witness, int file) {
        int last = witness.house.last();
        for (int i = 0; i < NUMBERS_AT_ONCE; i++) {
            int number = last - i;
            witness.hear(() -> witness.house.remove(file, number));
        }
        readRecords(witness);
        readNumbers(witness);
    }

    private static void restoreAll(Witness witness) {
        for (int slot = 0; slot < SLOTS; slot++) {
            int which = slot;
            witness.hear(() -> witness.house.restore(which));
            readNumbers(witness);
        }
        readRecords(witness);
    }

    private static void dropAll(Witness witness) {
        witness.hear(witness.house::drop);
        readRecords(witness);
        for (int i = 0; i < 6; i++) {
            witness.hear(witness.house::drop);
        }
        witness.hear(witness.house::ack);
        for (int i = 0; i < 6; i++) {
            witness.hear(witness.house::drop);
        }
    }

    private static void letAllCome(Witness witness) {
        for (int i = 0; i <= LETTERS; i++) {
            witness.hear(() -> witness.house.link(0, 0));
            witness.hear(witness.house::ack);
        }
        readRecords(witness);
    }

    private static void fillTheLink(Witness witness) {
        int last = witness.house.last();
        for (int i = 0; i <= LETTERS; i++) {
            witness.hear(() -> witness.house.link(0, 2));
            witness.hear(() -> witness.house.link(last, 3));
        }
        for (int i = LETTERS; i >= 0; i--) {
            int letter = i;
            witness.hear(() -> witness.house.link(letter, 0));
            witness.hear(witness.house::ack);
        }
    }

    private static void takeOver(Witness witness) {
        witness.heard.add((long) witness.house.takeOver());
        readRecords(witness);
    }

    private static void makeFiles(Witness witness) {
        for (int i = 0; i <= FILES; i++) {
            witness.hear(() -> witness.house.file(RECORDS));
        }
        readRecords(witness);
    }

    /** A house, and all that it answered in a row. */
    private static final class Witness {
        private static final long ARGUMENT = Long.MIN_VALUE;
        private static final long STATE = Long.MIN_VALUE + 1;

        final JournalHouse house;
        final List<Long> heard = new ArrayList<>();

        Witness(JournalHouse house) {
            this.house = house;
        }

        void hear(Checks.Call call) {
            try {
                heard.add(call.answer());
            } catch (IllegalArgumentException e) {
                heard.add(ARGUMENT);
            } catch (IllegalStateException e) {
                heard.add(STATE);
            }
        }

        boolean wasRefused() {
            long newest = heard.get(heard.size() - 1);
            return newest == ARGUMENT || newest == STATE;
        }

        void tryOut(Call call) {
            try {
                call.on(house);
            } catch (RuntimeException e) {
                // What it is due to throw is looked at elsewhere.
            }
        }
    }
}
