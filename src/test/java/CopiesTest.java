/** Promises 7 (save) and 8 (restore). */
public final class CopiesTest {
    public static void main(String[] args) {
        Checks checks = new Checks();
        savesAndRestores(checks);
        nothingToChange(checks);
        inPlaceOfAnother(checks);
        openCycles(checks);
        saveOfAFileWithANumber(checks);
        refused(checks);
        refusedForTheReserve(checks);
        wrongArguments(checks);
        whileDown(checks);
        checks.finish();
    }

    private static void savesAndRestores(Checks checks) {
        JournalHouse house = Houses.withFiles(1, 4);
        Houses.commit(house, 1, 2, 5);
        checks.same("save", house.save(1, 3), 2);
        checks.same("a save is no entry", house.last(), 2);
        Houses.commit(house, 1, 3, 6);
        Houses.commit(house, 1, 0, 7);
        Houses.commit(house, 0, 0, 8);
        checks.same("restore", house.restore(3), 2);
        checks.same("last", house.last(), 11);
        int[][] due = {{9, 1, 0, 7, 0}, {10, 1, 3, 6, 0}};
        for (int[] d : due) {
            checks.same("kind", house.entry(d[0], 0), 1);
            checks.same("job", house.entry(d[0], 1), 3);
            for (int what = 2; what <= 5; what++) {
                checks.same("entry " + d[0] + " " + what, house.entry(d[0], what), d[what - 1]);
            }
        }
        checks.same("its COMMIT", house.entry(11, 0), 2);
        checks.same("its job", house.entry(11, 1), 3);
        checks.same("get", house.get(1, 3), 0);
        checks.same("get of what was saved", house.get(1, 2), 5);
        checks.same("the other file", house.get(0, 0), 8);
        checks.same("number", house.number(1), 2);
        checks.same("number of the other file", house.number(0), -1);
        Houses.commit(house, 1, 2, 0);
        checks.same("live again", house.number(1), -1);
        checks.same("the copy stays", house.restore(3), 1);
        checks.same("get", house.get(1, 2), 5);
    }

    private static void nothingToChange(Checks checks) {
        JournalHouse house = Houses.withFiles(2);
        house.save(0, 0);
        Houses.commitAll(house, 1, 0);
        checks.same("restore", house.restore(0), 0);
        checks.same("no COMMIT", house.last(), 4);
        checks.same("number", house.number(0), 0);
        checks.wrongState("apply at the limit", () -> house.apply(0, 5));
        checks.same("apply below the limit", house.apply(0, 2), 1);
        checks.same("get", house.get(0, 0), 1);
    }

    private static void inPlaceOfAnother(Checks checks) {
        JournalHouse house = Houses.withFiles(2, 3);
        Houses.commitAll(house, 4);
        house.save(0, 0);
        house.save(0, 1);
        Houses.commit(house, 1, 2, 9);
        checks.same("save", house.save(1, 0), 4);
        Houses.commit(house, 1, 2, 10);
        Houses.commitAll(house, 5);
        checks.same("restore", house.restore(0), 1);
        checks.same("the file that was saved last", house.get(1, 2), 9);
        checks.same("not the first one", house.get(0, 0), 5);
        checks.same("the other slot", house.restore(1), 1);
        checks.same("get", house.get(0, 0), 4);
    }

    private static void openCycles(Checks checks) {
        JournalHouse house = Houses.withFiles(1, 1);
        house.save(0, 0);
        house.change(2, 0, 0, 1);
        checks.wrongState("save with an open cycle", () -> house.save(0, 1));
        checks.wrongState("restore with an open cycle", () -> house.restore(0));
        checks.same("save of another file", house.save(1, 1), 1);
        checks.same("restore of another file", house.restore(1), 0);
        house.end(2, true);
        checks.same("restore behind the end", house.restore(0), 1);
        checks.same("slot 1 kept what it had", house.restore(1), 0);
        checks.same("its number", house.number(1), 1);
    }

    private static void saveOfAFileWithANumber(Checks checks) {
        JournalHouse house = Houses.withFiles(1);
        Houses.commitAll(house, 1, 2);
        house.remove(0, 2);
        checks.same("number", house.number(0), 2);
        checks.same("save", house.save(0, 0), 6);
        checks.same("a save leaves the number", house.number(0), 2);
        Houses.commitAll(house, 3);
        house.restore(0);
        checks.same("the last number when it was saved", house.number(0), 6);
        checks.same("get", house.get(0, 0), 1);
    }

    private static void refused(Checks checks) {
        JournalHouse house = Houses.withFiles(2);
        house.save(0, 0);
        house.change(0, 0, 0, 1);
        house.change(0, 0, 1, 1);
        house.end(0, true);
        for (int n = 0; n < 20; n++) {
            house.change(1, 0, 0, 2 + n);
        }
        house.end(1, false);
        checks.same("last", house.last(), 44);
        house.change(0, 0, 0, 7);
        house.end(0, true);
        checks.wrongState("three entries where two have room", () -> house.restore(0));
        checks.same("last as it was", house.last(), 46);
        checks.same("number as it was", house.number(0), -1);
        checks.same("record as it was", house.get(0, 0), 7);
        Houses.dropReceiver(house, 0);
        checks.same("with room", house.restore(0), 2);
        checks.same("last", house.last(), 49);
    }

    private static void refusedForTheReserve(Checks checks) {
        JournalHouse house = Houses.withFiles(1, 1);
        house.save(0, 0);
        house.change(0, 0, 0, 4);
        house.change(0, 0, 0, 5);
        house.end(0, true);
        for (int n = 0; n < 21; n++) {
            house.change(1, 1, 0, n);
        }
        checks.same("last", house.last(), 24);
        checks.same("two entries, with room 24 and a reserve of 22", house.restore(0), 1);
        checks.wrongState("apply of two entries, with room 22", () -> house.apply(0, 3));
        checks.same("number as it was", house.number(0), 0);
        checks.same("nothing to change is never refused", house.restore(0), 0);
        house.end(1, true);
        checks.same("without the reserve", house.apply(0, 3), 1);
        house.change(1, 1, 0, 1);
        checks.same("last", house.last(), 30);
    }

    private static void wrongArguments(Checks checks) {
        JournalHouse house = Houses.withFiles(1);
        for (int slot : new int[] {-1, 4, Integer.MIN_VALUE, Integer.MAX_VALUE}) {
            checks.wrongArgument("save in slot " + slot, () -> house.save(0, slot));
            checks.wrongArgument("restore of slot " + slot, () -> house.restore(slot));
        }
        for (int file : new int[] {-1, 1, 3, Integer.MIN_VALUE, Integer.MAX_VALUE}) {
            checks.wrongArgument("save of file " + file, () -> house.save(file, 0));
        }
        checks.wrongState("nothing saved", () -> house.restore(0));
    }

    private static void whileDown(Checks checks) {
        JournalHouse house = Houses.withFiles(1);
        house.save(0, 0);
        Houses.commitAll(house, 3);
        house.cut(0);
        checks.wrongArgument("save of no file while down", () -> house.save(1, 0));
        checks.wrongArgument("restore of slot 4 while down", () -> house.restore(4));
        checks.wrongState("save while down", () -> house.save(0, 0));
        checks.wrongState("restore while down", () -> house.restore(0));
        house.start();
        checks.same("copies outlive a cut", house.restore(0), 1);
        checks.same("get", house.get(0, 0), 0);
    }
}
