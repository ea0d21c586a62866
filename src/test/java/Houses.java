/** Houses brought to states that several tests begin with. */
final class Houses {
    private Houses() {
    }

    static JournalHouse withFiles(int... sizes) {
        JournalHouse house = new JournalHouse();
        for (int size : sizes) {
            house.file(size);
        }
        return house;
    }

    /** A change of a record by job 0 and its COMMIT: two entries. */
    static void commit(JournalHouse house, int file, int record, int value) {
        house.change(0, file, record, value);
        house.end(0, true);
    }

    /** Each value to record 0 of file 0, each in a cycle of its own. */
    static void commitAll(JournalHouse house, int... values) {
        for (int value : values) {
            commit(house, 0, 0, value);
        }
    }

    static void deliver(JournalHouse house, int from, int to) {
        for (int n = from; n <= to; n++) {
            int letters = house.link(n, 3);
            house.link(letters - 1, 0);
        }
    }

    static void dropReceiver(JournalHouse house, int receiver) {
        deliver(house, receiver * 8 + 1, receiver * 8 + 8);
        house.ack();
        house.drop();
    }

    /** Changes of a record by a job, with values from 1 on, that leave its cycle open. */
    static void change(JournalHouse house, int job, int file, int record, int times) {
        for (int value = 1; value <= times; value++) {
            house.change(job, file, record, value);
        }
    }

    /** So many receivers that were filled by cycles on record 0 of file 0, each rolled back, and dropped. */
    static JournalHouse withDropped(int receivers, int... sizes) {
        JournalHouse house = withFiles(sizes);
        for (int receiver = 0; receiver < receivers; receiver++) {
            change(house, 0, 0, 0, 2);
            house.end(0, false);
            change(house, 0, 0, 0, 1);
            house.end(0, false);
            dropReceiver(house, receiver);
        }
        return house;
    }

    /** The parts of an entry, from its kind on; those behind the last one that is given are NONE. */
    static void dueEntry(Checks checks, JournalHouse house, int number, long... due) {
        for (int what = 0; what <= 5; what++) {
            long part = what < due.length ? due[what] : JournalHouse.NONE;
            checks.same("entry(" + number + ", " + what + ")", house.entry(number, what), part);
        }
    }

    /** Whether there is a boundary ('+') at 0, 1, and so on up to the last number. */
    static void dueBoundaries(Checks checks, JournalHouse house, int file, String due) {
        StringBuilder got = new StringBuilder();
        for (int number = 0; number <= house.last(); number++) {
            got.append(house.boundary(file, number) ? '+' : '-');
        }
        if (!got.toString().equals(due)) {
            checks.complain("boundaries of file " + file + " are " + got + ", due is " + due);
        }
    }
}
