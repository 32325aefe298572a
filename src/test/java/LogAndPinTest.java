/** Promises 31 to 39: the log, the statistics, and the pins. */
public final class LogAndPinTest {
    private LogAndPinTest() {
    }

    public static void main(String[] args) {
        log();
        logWrongly();
        statistics();
        pin();
        pinnedValue();
        unpin();
        unpinOfSharedBlocks();
        pinsOutliveTheDisk();
        differences();
        Check.end("LogAndPinTest");
    }

    private static void log() {
        Check.promise(31);
        ShadowFile file = new ShadowFile();
        for (int number = 1; number <= 10; number++) {
            Help.makeReady(file, "1=1,2=" + number);
            Help.makeReady(file, "-5");
            Check.same("commit", file.commit(-1), number);
            Check.same("logSize", file.logSize(), Math.min(number, 8));
        }
        Check.promise(32);
        for (int index = 0; index < 8; index++) {
            Check.same("the number", file.logged(index, 0), 10 - index);
            Check.same("the slots", file.logged(index, 1), 2);
            Check.same("the pages", file.logged(index, 2), 3);
            Check.same("the blocks", file.logged(index, 3), 4);
        }
        Help.makeReady(file, "1=1");
        file.commit(1);
        Check.text("the log", Help.log(file), "-1 1 1 1\n10 2 3 4\n9 2 3 4\n8 2 3 4\n7 2 3 4\n"
                + "6 2 3 4\n5 2 3 4\n4 2 3 4\n");
        String before = Help.log(file);
        file.reopen();
        file.format();
        file.salvage();
        file.damage(3, 3, 3);
        Check.text("nothing else changes it", Help.log(file), before);
    }

    private static void logWrongly() {
        Check.promise(32);
        ShadowFile file = new ShadowFile();
        Check.fails("an empty log", file, Check.INDEX, () -> file.logged(0, 0));
        Check.fails("the index comes first", file, Check.INDEX, () -> file.logged(0, 9));
        Help.commit(file, "1=1");
        Check.fails("index -1", file, Check.INDEX, () -> file.logged(-1, 0));
        Check.fails("index 1", file, Check.INDEX, () -> file.logged(1, 0));
        Check.fails("what -1", file, Check.ARGUMENT, () -> file.logged(0, -1));
        Check.fails("what 4", file, Check.ARGUMENT, () -> file.logged(0, 4));
        file.begin();
        Check.promise(31);
        Check.failsOnly("a commit that throws", Check.STATE, () -> file.commit(-1));
        Check.same("is not logged", file.logSize(), 1);
        for (int i = 0; i < 9; i++) {
            Help.commit(file, "");
        }
        Check.promise(32);
        Check.fails("index 8", file, Check.INDEX, () -> file.logged(8, 0));
    }

    private static void statistics() {
        Check.promise(33);
        ShadowFile file = new ShadowFile();
        Check.text("a new file", Help.statistics(file), "0 0 0 0 0 0 0 0\n");
        Help.commit(file, "1=1,2=2,10=3");
        Check.text("a commit", Help.statistics(file), "1 0 4 0 0 0 0 0\n");
        file.salvage();
        file.salvage();
        Check.text("salvage", Help.statistics(file), "1 0 4 0 0 0 6 0\n");
        file.damage(9, 9, 9);
        file.damage(9, 9, 9);
        file.damage(9, 9, 0);
        file.damage(9, 8, 0);
        Check.text("damage", Help.statistics(file), "1 0 4 0 0 0 6 2\n");
        Help.makeReady(file, "1=1");
        file.commit(2);
        Check.text("a power failure", Help.statistics(file), "1 1 6 1 0 0 6 2\n");
        file.reopen();
        file.reopen();
        file.damage(0, 0, 0);
        file.damage(1, 0, 0);
        Check.failsOnly("reopen", Check.STATE, file::reopen);
        Check.text("reopen", Help.statistics(file), "1 1 6 1 2 1 6 4\n");
        file.format();
        Check.text("format", Help.statistics(file), "1 1 6 1 2 1 6 4\n");
        Check.fails("what -1", file, Check.ARGUMENT, () -> file.statistic(-1));
        Check.fails("what 8", file, Check.ARGUMENT, () -> file.statistic(8));
    }

    private static void pin() {
        Check.promise(34);
        ShadowFile file = new ShadowFile();
        Check.same("pin", file.pin(), 0);
        Help.commit(file, "1=1");
        Check.same("pin", file.pin(), 1);
        Check.fails("no pin is unused", file, Check.STATE, file::pin);
        Check.promise(36);
        Check.same("pinnedCommit", file.pinnedCommit(0), 0);
        Check.same("pinnedCommit", file.pinnedCommit(1), 1);
        Check.promise(34);
        file.unpin(0);
        Check.same("the lowest unused pin", file.pin(), 0);
        Check.promise(36);
        Check.same("pinnedCommit", file.pinnedCommit(0), 1);
        Check.fails("pin 2", file, Check.INDEX, () -> file.pinnedCommit(2));
        Check.fails("pin -1", file, Check.INDEX, () -> file.pinnedCommit(-1));
        file.unpin(1);
        Check.fails("an unused pin", file, Check.STATE, () -> file.pinnedCommit(1));
        Help.makeReady(file, "1=1");
        file.commit(0);
        Check.promise(34);
        Check.fails("a closed file", file, Check.STATE, file::pin);
    }

    private static void pinnedValue() {
        Check.promise(35);
        ShadowFile file = new ShadowFile();
        Help.commit(file, "0=1,63=2");
        file.pin();
        Help.commit(file, "0=3,-63,5=5");
        Check.same("pinnedValue", file.pinnedValue(0, 0), 1);
        Check.same("pinnedValue", file.pinnedValue(0, 63), 2);
        Check.fails("a later record", file, Check.MISSING, () -> file.pinnedValue(0, 5));
        Check.fails("pin -1", file, Check.INDEX, () -> file.pinnedValue(-1, 64));
        Check.fails("pin 2", file, Check.INDEX, () -> file.pinnedValue(2, 0));
        Check.fails("key -1", file, Check.ARGUMENT, () -> file.pinnedValue(0, -1));
        Check.fails("key 64 of an unused pin", file, Check.ARGUMENT, () -> file.pinnedValue(1, 64));
        Check.fails("an unused pin", file, Check.STATE, () -> file.pinnedValue(1, 0));
    }

    private static void unpin() {
        Check.promise(37);
        ShadowFile file = new ShadowFile();
        Help.commit(file, "0=1,1=1,2=1");
        file.pin();
        Check.same("unpin of the present version", file.unpin(0), 0);
        file.pin();
        Help.commit(file, "1=2");
        Check.same("freeCount", file.freeCount(), 24);
        Check.same("a page and a table become free", file.unpin(0), 2);
        Check.same("freeCount", file.freeCount(), 26);
        Check.fails("unpin again", file, Check.STATE, () -> file.unpin(0));
        Check.fails("unpin -1", file, Check.INDEX, () -> file.unpin(-1));
        Check.fails("unpin 2", file, Check.INDEX, () -> file.unpin(2));
    }

    private static void unpinOfSharedBlocks() {
        Check.promise(37);
        ShadowFile file = new ShadowFile();
        Help.commit(file, "0=1,1=1");
        file.pin();
        file.pin();
        Help.commit(file, "0=2,1=2");
        Check.same("the other pin holds the blocks", file.unpin(0), 0);
        Check.same("all its blocks become free", file.unpin(1), 3);
    }

    private static void pinsOutliveTheDisk() {
        Check.promise(35);
        ShadowFile file = new ShadowFile();
        Help.commit(file, "1=7");
        file.pin();
        int page = file.pageBlock(1);
        Help.commit(file, "1=8");
        for (int cell = 0; cell < 13; cell++) {
            file.damage(page, cell, 5);
        }
        Check.same("pinnedValue", file.pinnedValue(0, 1), 7);
        Check.same("its blocks are not free", file.freeCount(), 26);
    }

    private static void differences() {
        Check.promise(38);
        ShadowFile file = new ShadowFile();
        Help.commit(file, "1=1,2=2,3=0,63=4");
        file.pin();
        Check.same("none", file.differences(0), 0);
        Help.commit(file, "1=1,2=3,-3,0=0");
        Check.same("differences", file.differences(0), 3);
        Check.promise(39);
        Check.same("differentKey", file.differentKey(0, 0), 0);
        Check.same("differentKey", file.differentKey(0, 1), 2);
        Check.same("differentKey", file.differentKey(0, 2), 3);
        Check.fails("index 3", file, Check.MISSING, () -> file.differentKey(0, 3));
        Check.fails("index -1", file, Check.MISSING, () -> file.differentKey(0, -1));
        Check.fails("pin 2", file, Check.INDEX, () -> file.differentKey(2, 0));
        Check.fails("pin -1", file, Check.INDEX, () -> file.differentKey(-1, 0));
        Check.fails("an unused pin", file, Check.STATE, () -> file.differentKey(1, 0));
        Check.promise(38);
        Check.fails("pin 2", file, Check.INDEX, () -> file.differences(2));
        Check.fails("pin -1", file, Check.INDEX, () -> file.differences(-1));
        Check.fails("an unused pin", file, Check.STATE, () -> file.differences(1));
        Help.commit(file, "2=2,3=0,-0,-63");
        Check.same("differences", file.differences(0), 1);
        Check.promise(39);
        Check.same("differentKey", file.differentKey(0, 0), 63);
        differencesOfAllKeys();
    }

    private static void differencesOfAllKeys() {
        ShadowFile file = new ShadowFile();
        for (int round = 0; round < 2; round++) {
            file.begin();
            for (int key = 0; key < 64; key++) {
                file.put(0, key, key + round);
            }
            file.ready(0);
            file.commit(-1);
            if (round == 0) {
                file.pin();
            }
        }
        Check.promise(38);
        Check.same("all keys", file.differences(0), 64);
        for (int key = 0; key < 64; key++) {
            Check.promise(39);
            Check.same("differentKey", file.differentKey(0, key), key);
            Check.promise(35);
            Check.same("pinnedValue", file.pinnedValue(0, key), key);
        }
    }
}
