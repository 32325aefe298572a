/** Promises 1 to 12: a new object, format, and the slots. */
public final class TransactionTest {
    private static final int NUL = Integer.MIN_VALUE;

    private TransactionTest() {
    }

    public static void main(String[] args) {
        newObject();
        formatOfAnOpenFile();
        formatOfAClosedFile();
        formatKeepsTextsAndSalvage();
        allSlotsEnd();
        begin();
        put();
        putWrongly();
        remove();
        get();
        changesAndState();
        marks();
        marksBelongToTheirSlot();
        marksOfAllKeys();
        ready();
        abandon();
        closedFile();
        Check.end("TransactionTest");
    }

    private static void newObject() {
        Check.promise(1);
        ShadowFile file = new ShadowFile();
        Check.yes("isOpen", file.isOpen());
        Check.same("commitNumber", file.commitNumber(), 0);
        Check.same("size", file.size(), 0);
        Check.text("block 0", Help.block(file, 0), "1 0 2 0 0 0 0 0 0 0 0 0");
        Check.text("block 2", Help.block(file, 2), "2 0 0 0 -1 -1 -1 -1 -1 -1 -1 -1");
        for (int block = 0; block < 32; block++) {
            if (block != 0 && block != 2) {
                Check.text("block " + block, Help.block(file, block), "0 0 0 0 0 0 0 0 0 0 0 0");
                Check.same("its checksum cell", file.cell(block, 12), 0);
            }
            Check.yes("valid " + block, file.isValid(block) == (block == 0 || block == 2));
        }
        for (int slot = 0; slot < 3; slot++) {
            Check.same("slotState", file.slotState(slot), 0);
        }
        Check.failsOnly("pin 0 is unused", Check.STATE, () -> file.pinnedCommit(0));
        Check.failsOnly("pin 1 is unused", Check.STATE, () -> file.pinnedCommit(1));
        Check.text("output", Help.output(file), "");
        Check.text("salvaged", Help.salvaged(file), "");
        Check.same("logSize", file.logSize(), 0);
        Check.text("statistics", Help.statistics(file), "0 0 0 0 0 0 0 0\n");
        Check.same("the input is empty", file.feed('x'), 1);
    }

    private static void formatOfAnOpenFile() {
        Check.promise(2);
        ShadowFile file = new ShadowFile();
        String fresh = Help.disk(file);
        Check.same("format of a new file", file.format(), 0);
        Help.commit(file, "1=5,2=6");
        Help.commit(file, "1=7");
        file.pin();
        file.pin();
        Help.makeReady(file, "9=9");
        file.begin();
        file.damage(31, 3, 77);
        Check.same("format", file.format(), 2);
        Check.text("the disk", Help.disk(file), fresh);
        Check.yes("isOpen", file.isOpen());
        Check.same("commitNumber", file.commitNumber(), 0);
        Check.same("size", file.size(), 0);
        Check.same("freeCount", file.freeCount(), 29);
        Check.same("wrongBlock", file.wrongBlock(), -1);
        Check.same("slotState", file.slotState(0) + file.slotState(1) + file.slotState(2), 0);
        Check.same("blocksToWrite", file.blocksToWrite(), 0);
        Check.failsOnly("pinnedCommit", Check.STATE, () -> file.pinnedCommit(0));
        Check.failsOnly("pinnedCommit", Check.STATE, () -> file.pinnedCommit(1));
        Check.text("the log", Help.log(file), "2 1 1 3\n1 1 2 4\n");
        Check.text("the statistics", Help.statistics(file), "2 0 7 0 0 0 0 1\n");
        Check.same("the next commit", Help.commit(file, "5=5"), 1);
        Check.same("the next commit's page", file.pageBlock(5), 3);
    }

    private static void formatOfAClosedFile() {
        Check.promise(2);
        ShadowFile file = new ShadowFile();
        Help.makeReady(file, "1=5");
        file.commit(0);
        Check.same("format of a closed file", file.format(), -1);
        Check.yes("isOpen", file.isOpen());
        Check.same("commitNumber", file.commitNumber(), 0);
        Check.same("the file can be reopened", file.reopen(), 0);
        String fresh = Help.disk(new ShadowFile());
        Help.commit(file, "1=5");
        Check.same("format after an odd commit", file.format(), 1);
        Check.text("the disk", Help.disk(file), fresh);
        Check.same("wrongBlock", file.wrongBlock(), -1);
    }

    private static void allSlotsEnd() {
        for (int way = 0; way < 3; way++) {
            Check.promise(way == 0 ? 2 : way == 1 ? 20 : 19);
            ShadowFile file = new ShadowFile();
            Help.makeReady(file, "1=1");
            file.begin();
            file.begin();
            file.put(2, 63, 1);
            file.mark(2);
            if (way == 0) {
                file.format();
            } else if (way == 1) {
                file.reopen();
            } else {
                file.commit(0);
                file.reopen();
            }
            for (int slot = 0; slot < 3; slot++) {
                Check.same("the state of slot " + slot, file.slotState(slot), 0);
                Check.same("the changes of slot " + slot, file.changes(slot), 0);
            }
            Check.same("blocksToWrite", file.blocksToWrite(), 0);
            Check.same("begin", file.begin() + file.begin() + file.begin(), 3);
            Check.fails("no marks", file, Check.MISSING, () -> file.goBack(2));
        }
    }

    private static void formatKeepsTextsAndSalvage() {
        Check.promise(2);
        ShadowFile file = new ShadowFile();
        Help.commit(file, "1=5,63=-7");
        file.writeRecords();
        file.salvage();
        Help.feed(file, "4=4");
        file.format();
        Check.text("output", Help.output(file), "1=5,63=-7");
        Check.text("salvaged", Help.salvaged(file), "1 5 1 3\n63 -7 1 4\n");
        file.begin();
        Check.same("the input", file.readChanges(0), 1);
        Check.same("the input's value", file.get(0, 4), 4);
    }

    private static void begin() {
        Check.promise(3);
        ShadowFile file = new ShadowFile();
        Check.same("begin", file.begin(), 0);
        Check.same("begin", file.begin(), 1);
        Check.same("begin", file.begin(), 2);
        Check.fails("begin without an idle slot", file, Check.STATE, file::begin);
        file.put(1, 5, 5);
        file.mark(1);
        file.abandon(1);
        Check.same("begin takes the idle one", file.begin(), 1);
        Check.same("it has no changes", file.changes(1), 0);
        Check.same("it is active", file.slotState(1), 1);
        Check.failsOnly("it has no marks", Check.MISSING, () -> file.goBack(1));
        file.ready(0);
        Check.fails("a ready slot is not idle", file, Check.STATE, file::begin);
        file.commit(-1);
        Check.same("begin after a commit", file.begin(), 0);
        file.abandon(2);
        file.abandon(0);
        Check.same("the lowest idle slot", file.begin(), 0);
    }

    private static void put() {
        Check.promise(4);
        ShadowFile file = new ShadowFile();
        Help.commit(file, "1=5,2=6");
        int slot = file.begin();
        Check.yes("put of a record", file.put(slot, 1, 9999));
        Check.no("put of a new key", file.put(slot, 0, -9999));
        Check.yes("put again", file.put(slot, 0, 3));
        file.remove(slot, 2);
        Check.no("put of a removed key", file.put(slot, 2, 0));
        Check.no("put of the last key", file.put(slot, 63, 1));
        Check.same("value", file.get(slot, 1), 9999);
        Check.same("value", file.get(slot, 0), 3);
        Check.same("value", file.get(slot, 2), 0);
        Check.same("value", file.get(slot, 63), 1);
        Check.same("the present version stays", file.value(1), 5);
        Check.same("size stays", file.size(), 2);
        int other = file.begin();
        Check.no("another slot does not see it", file.put(other, 63, 1));
    }

    private static void putWrongly() {
        Check.promise(4);
        ShadowFile file = new ShadowFile();
        file.begin();
        int[] slots = {-1, 3, NUL, Integer.MAX_VALUE};
        for (int slot : slots) {
            Check.fails("put in " + slot, file, Check.INDEX, () -> file.put(slot, 64, 0));
        }
        int[][] wrong = {{-1, 0}, {64, 0}, {NUL, 0}, {0, 10000}, {0, -10000}, {63, NUL}};
        for (int[] pair : wrong) {
            Check.fails("put " + pair[0] + "=" + pair[1], file, Check.ARGUMENT,
                    () -> file.put(0, pair[0], pair[1]));
            Check.fails("put first looks at the key", file, Check.ARGUMENT,
                    () -> file.put(1, pair[0], pair[1]));
        }
        Check.fails("put in an idle slot", file, Check.STATE, () -> file.put(1, 0, 0));
        file.ready(0);
        Check.fails("put in a ready slot", file, Check.STATE, () -> file.put(0, 0, 0));
    }

    private static void remove() {
        Check.promise(5);
        ShadowFile file = new ShadowFile();
        Help.commit(file, "1=5,2=6");
        int slot = file.begin();
        Check.same("remove of a record", file.remove(slot, 1), 5);
        file.put(slot, 2, 7);
        Check.same("remove of a changed record", file.remove(slot, 2), 7);
        file.put(slot, 63, -4);
        Check.same("remove of a new record", file.remove(slot, 63), -4);
        Check.same("changes", file.changes(slot), 3);
        Check.fails("remove again", file, Check.MISSING, () -> file.remove(slot, 1));
        Check.fails("remove of no record", file, Check.MISSING, () -> file.remove(slot, 3));
        Check.fails("remove in -1", file, Check.INDEX, () -> file.remove(-1, 64));
        Check.fails("remove in 3", file, Check.INDEX, () -> file.remove(3, 1));
        Check.fails("remove of 64", file, Check.ARGUMENT, () -> file.remove(1, 64));
        Check.fails("remove of -1", file, Check.ARGUMENT, () -> file.remove(0, -1));
        Check.fails("remove in an idle slot", file, Check.STATE, () -> file.remove(1, 1));
        file.ready(slot);
        Check.fails("remove in a ready slot", file, Check.STATE, () -> file.remove(slot, 3));
        Check.same("the present version stays", file.size(), 2);
    }

    private static void get() {
        Check.promise(6);
        ShadowFile file = new ShadowFile();
        Help.commit(file, "1=5,2=6");
        int slot = file.begin();
        Check.same("get of the present version", file.get(slot, 1), 5);
        file.put(slot, 1, 8);
        file.remove(slot, 2);
        Check.same("get of a change", file.get(slot, 1), 8);
        Check.fails("get of a removal", file, Check.MISSING, () -> file.get(slot, 2));
        Check.fails("get of no record", file, Check.MISSING, () -> file.get(slot, 63));
        Check.fails("get in -1", file, Check.INDEX, () -> file.get(-1, 64));
        Check.fails("get in 3", file, Check.INDEX, () -> file.get(3, 1));
        Check.fails("get of 64", file, Check.ARGUMENT, () -> file.get(1, 64));
        Check.fails("get of -1", file, Check.ARGUMENT, () -> file.get(0, -1));
        Check.fails("get in an idle slot", file, Check.STATE, () -> file.get(1, 1));
        file.ready(slot);
        Check.same("get in a ready slot", file.get(slot, 1), 8);
        file.begin();
        file.abandon(slot);
        Help.commit(file, "1=70,9=9");
        Check.same("the view follows the present version", file.get(1, 1), 70);
        Check.same("the view follows the present version", file.get(1, 9), 9);
    }

    private static void changesAndState() {
        Check.promise(7);
        ShadowFile file = new ShadowFile();
        Check.same("changes of an idle slot", file.changes(2), 0);
        file.begin();
        file.put(0, 0, 1);
        file.put(0, 0, 2);
        file.put(0, 63, 2);
        Check.same("changes", file.changes(0), 2);
        file.remove(0, 0);
        Check.same("a removal counts", file.changes(0), 2);
        Check.same("changes of another slot", file.changes(1), 0);
        Check.fails("changes of 3", file, Check.INDEX, () -> file.changes(3));
        Check.fails("changes of -1", file, Check.INDEX, () -> file.changes(-1));
        Check.promise(8);
        Check.same("active", file.slotState(0), 1);
        Check.same("idle", file.slotState(1), 0);
        file.ready(0);
        Check.same("ready", file.slotState(0), 2);
        Check.fails("slotState of 3", file, Check.INDEX, () -> file.slotState(3));
        Check.fails("slotState of -1", file, Check.INDEX, () -> file.slotState(-1));
        Check.promise(7);
        Check.same("changes of a ready slot", file.changes(0), 2);
        file.commit(-1);
        Check.same("changes after a commit", file.changes(0), 0);
        Check.promise(8);
        Check.same("idle after a commit", file.slotState(0), 0);
    }

    private static void marks() {
        Check.promise(9);
        ShadowFile file = new ShadowFile();
        Help.commit(file, "7=1");
        file.begin();
        Check.same("mark", file.mark(0), 1);
        file.put(0, 1, 10);
        file.remove(0, 7);
        Check.same("mark", file.mark(0), 2);
        file.put(0, 1, 11);
        file.put(0, 7, 12);
        file.put(0, 2, 13);
        Check.same("mark", file.mark(0), 3);
        Check.fails("a fourth mark", file, Check.STATE, () -> file.mark(0));
        Check.fails("mark of -1", file, Check.INDEX, () -> file.mark(-1));
        Check.fails("mark of 3", file, Check.INDEX, () -> file.mark(3));
        Check.fails("mark of an idle slot", file, Check.STATE, () -> file.mark(1));
        Check.promise(10);
        file.put(0, 3, 14);
        Check.same("goBack", file.goBack(0), 3);
        Check.same("value", file.get(0, 7), 12);
        Check.failsOnly("no later change", Check.MISSING, () -> file.get(0, 3));
        Check.same("goBack", file.goBack(0), 2);
        Check.same("value", file.get(0, 1), 10);
        Check.failsOnly("the removal is back", Check.MISSING, () -> file.get(0, 7));
        Check.same("goBack", file.goBack(0), 0);
        Check.same("the record is back", file.get(0, 7), 1);
        Check.fails("goBack without marks", file, Check.MISSING, () -> file.goBack(0));
        Check.fails("goBack of -1", file, Check.INDEX, () -> file.goBack(-1));
        Check.fails("goBack of 3", file, Check.INDEX, () -> file.goBack(3));
        Check.fails("goBack of an idle slot", file, Check.STATE, () -> file.goBack(1));
        Check.promise(9);
        Check.same("marks can be set again", file.mark(0), 1);
        file.ready(0);
        Check.fails("mark of a ready slot", file, Check.STATE, () -> file.mark(0));
        Check.promise(10);
        Check.fails("goBack of a ready slot", file, Check.STATE, () -> file.goBack(0));
    }

    private static void marksBelongToTheirSlot() {
        Check.promise(10);
        ShadowFile file = new ShadowFile();
        file.begin();
        file.begin();
        file.put(0, 1, 1);
        file.mark(0);
        file.put(1, 1, 2);
        Check.same("mark", file.mark(1), 1);
        file.put(0, 1, 3);
        file.put(1, 1, 4);
        Check.same("goBack", file.goBack(1), 1);
        Check.same("its value", file.get(1, 1), 2);
        Check.same("the other's value", file.get(0, 1), 3);
        file.goBack(0);
        Check.same("the other's value", file.get(0, 1), 1);
    }

    private static void marksOfAllKeys() {
        Check.promise(10);
        ShadowFile file = new ShadowFile();
        file.begin();
        for (int key = 0; key < 64; key++) {
            file.put(0, key, key + 100);
        }
        file.mark(0);
        for (int key = 0; key < 64; key++) {
            file.put(0, key, key - 100);
        }
        Check.same("goBack", file.goBack(0), 64);
        for (int key = 0; key < 64; key++) {
            Check.same("value", file.get(0, key), key + 100);
        }
    }

    private static void ready() {
        Check.promise(11);
        ShadowFile file = new ShadowFile();
        file.begin();
        file.begin();
        file.begin();
        file.put(2, 1, 1);
        file.mark(2);
        Check.same("ready", file.ready(2), 1);
        Check.same("ready", file.ready(0), 2);
        Check.same("its changes stay", file.changes(2), 1);
        Check.fails("ready again", file, Check.STATE, () -> file.ready(2));
        Check.fails("ready of -1", file, Check.INDEX, () -> file.ready(-1));
        Check.fails("ready of 3", file, Check.INDEX, () -> file.ready(3));
        Check.same("ready", file.ready(1), 3);
        file.abandon(2);
        Check.fails("ready of an idle slot", file, Check.STATE, () -> file.ready(2));
        file.begin();
        Check.failsOnly("its marks are removed", Check.MISSING, () -> file.goBack(2));
        Check.same("ready counts the ready slots", file.ready(2), 3);
    }

    private static void abandon() {
        Check.promise(12);
        ShadowFile file = new ShadowFile();
        Help.commit(file, "1=1");
        file.begin();
        file.put(0, 1, 2);
        file.put(0, 5, 2);
        Check.same("abandon of an active slot", file.abandon(0), 2);
        Check.same("it is idle", file.slotState(0), 0);
        Check.same("it changes nothing", file.changes(0), 0);
        Check.fails("abandon again", file, Check.STATE, () -> file.abandon(0));
        Check.fails("abandon of -1", file, Check.INDEX, () -> file.abandon(-1));
        Check.fails("abandon of 3", file, Check.INDEX, () -> file.abandon(3));
        Help.makeReady(file, "1=10");
        Help.makeReady(file, "1=11,2=2,-3");
        Help.makeReady(file, "1=12");
        Check.same("abandon of a ready slot", file.abandon(1), 3);
        Check.same("blocksToWrite", file.blocksToWrite(), 3);
        Help.makeReady(file, "4=4");
        Check.same("the others are committed", file.commit(-1), 2);
        Check.text("records", Help.records(file), "1=12,4=4");
        Check.text("the log", Help.log(file), "2 3 2 4\n1 1 1 3\n");
        Help.makeReady(file, "1=10");
        Help.makeReady(file, "1=11");
        file.abandon(0);
        Help.makeReady(file, "1=20");
        file.commit(-1);
        Check.text("the order of readiness", Help.records(file), "1=20,4=4");
        Help.makeReady(file, "1=10");
        file.abandon(0);
        Check.same("no slot is ready", file.blocksToWrite(), 0);
        Check.fails("nothing to commit", file, Check.STATE, () -> file.commit(-1));
        file.begin();
        Check.same("ready", file.ready(0), 1);
    }

    private static void closedFile() {
        ShadowFile file = new ShadowFile();
        Help.commit(file, "1=1");
        file.begin();
        file.put(0, 2, 2);
        file.mark(0);
        file.begin();
        file.ready(1);
        file.commit(0);
        Check.promise(3);
        Check.fails("begin", file, Check.STATE, file::begin);
        Check.promise(4);
        Check.fails("put", file, Check.STATE, () -> file.put(0, 1, 1));
        Check.promise(6);
        Check.fails("get", file, Check.STATE, () -> file.get(0, 1));
        Check.promise(8);
        Check.same("slotState", file.slotState(0) + file.slotState(1), 0);
        Check.promise(7);
        Check.same("changes", file.changes(0), 0);
        Check.promise(12);
        Check.fails("abandon", file, Check.STATE, () -> file.abandon(0));
        file.reopen();
        Check.promise(3);
        Check.same("begin after reopen", file.begin(), 0);
        Check.promise(10);
        Check.fails("no marks after reopen", file, Check.MISSING, () -> file.goBack(0));
    }
}
