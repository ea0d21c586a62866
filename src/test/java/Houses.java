/** Houses brought to states that several tests begin with. */
final class Houses {
    private Houses() {
    }

    static JournalHouse withFiles(int... sizes) {
        JournalHouse house = new JournalHouse();
        for (int size : sizes) {
            house.file(size);
        }
        return house;
    }

    /** A change of a record by job 0 and its COMMIT: two entries. */
    static void commit(JournalHouse house, int file, int record, int value) {
        house.change(0, file, record, value);
        house.end(0, true);
    }

    /** Each value to record 0 of file 0, each in a cycle of its own. */
    static void commitAll(JournalHouse house, int... values) {
        for (int value : values) {
            commit(house, 0, 0, value);
        }
    }

    static void deliver(JournalHouse house, int from, int to) {
        for (int n = from; n <= to; n++) {
            int letters = house.link(n, 3);
            house.link(letters - 1, 0);
        }
    }

    static void dropReceiver(JournalHouse house, int receiver) {
        deliver(house, receiver * 8 + 1, receiver * 8 + 8);
        house.ack();
        house.drop();
    }
}
