/** Promises 18 to 21: commits, the power failures in them, reopen, and isOpen. */
public final class CommitTest {
    private CommitTest() {
    }

    public static void main(String[] args) {
        blocksToWrite();
        blocksOfACommit();
        commitsAlternate();
        groupCommit();
        pagesThatEmpty();
        commitWithoutChanges();
        commitWrongly();
        commitKeepsActiveSlots();
        lowestFreeBlocks();
        notEnoughBlocks();
        greatestCommitNumber();
        powerFailures();
        partOfABlock();
        failureEndsPinsAndSlots();
        reopenTakesTheGreaterRoot();
        reopenDemandsOfTheRoot();
        reopenDemandsOfTheTable();
        reopenDemandsOfThePages();
        reopenTakesRecords();
        reopenOfEqualRoots();
        reopenWithoutARoot();
        oddCommitInBlockZero();
        Check.end("CommitTest");
    }

    private static void blocksToWrite() {
        Check.promise(18);
        ShadowFile file = new ShadowFile();
        Check.same("no slot", file.blocksToWrite(), 0);
        int slot = file.begin();
        file.put(slot, 1, 1);
        Check.same("an active slot", file.blocksToWrite(), 0);
        file.ready(slot);
        Check.same("one page", file.blocksToWrite(), 3);
        Help.makeReady(file, "9=1,2=1,-3");
        Check.same("two pages, and one that stays empty", file.blocksToWrite(), 4);
        Help.makeReady(file, "-1,-9");
        Check.same("one page less", file.blocksToWrite(), 3);
        file.abandon(0);
        file.abandon(1);
        Check.same("the table and the root", file.blocksToWrite(), 2);
        file.abandon(2);
        Help.makeReady(file, "0=1,1=1,2=1,3=1,4=1,5=1,6=1,7=1");
        Check.same("all pages", file.blocksToWrite(), 10);
        Check.same("commit", file.commit(10), 1);
        Check.text("the log", Help.log(file), "1 1 8 10\n");
        Check.same("after a commit", file.blocksToWrite(), 0);
        Help.makeReady(file, "0=1");
        Check.same("a record that stays", file.blocksToWrite(), 3);
        file.commit(0);
        Check.same("a closed file", file.blocksToWrite(), 0);
    }

    private static void blocksOfACommit() {
        Check.promise(19);
        ShadowFile file = new ShadowFile();
        Help.makeReady(file, "63=-12,0=5,8=7,56=0");
        Check.same("commit", file.commit(-1), 1);
        Check.text("page 0", Help.block(file, 3), "3 1 0 131 5 7 0 0 0 0 0 0");
        Check.text("page 7", Help.block(file, 4), "3 1 7 128 0 0 0 0 0 0 0 -12");
        Check.text("the table", Help.block(file, 5), "2 1 0 0 3 -1 -1 -1 -1 -1 -1 4");
        Check.text("the root", Help.block(file, 1), "1 1 5 0 0 0 0 0 0 0 0 0");
        Check.text("the root before", Help.block(file, 0), "1 0 2 0 0 0 0 0 0 0 0 0");
        int[] written = {0, 1, 2, 3, 4, 5};
        for (int block : written) {
            Check.yes("valid " + block, file.isValid(block));
        }
        Check.text("block 6 stays", Help.block(file, 6), "0 0 0 0 0 0 0 0 0 0 0 0");
        Check.same("wrongBlock", file.wrongBlock(), -1);
        file.damage(2, 11, 99);
        file.damage(6, 3, 99);
        Help.commit(file, "0=6");
        Check.text("all that the block contained is replaced", Help.block(file, 2),
                "3 2 0 131 6 7 0 0 0 0 0 0");
        Check.text("the table", Help.block(file, 6), "2 2 0 0 2 -1 -1 -1 -1 -1 -1 4");
    }

    private static void commitsAlternate() {
        Check.promise(19);
        ShadowFile file = new ShadowFile();
        for (int number = 1; number <= 6; number++) {
            Check.same("commit", Help.commit(file, "1=" + number), number);
            Check.same("the root", file.cell(number % 2, 1), number);
            Check.same("the other root", file.cell(1 - number % 2, 1), number - 1);
            Check.same("wrongBlock", file.wrongBlock(), -1);
            Check.same("commitNumber", file.commitNumber(), number);
            Check.same("value", file.value(1), number);
        }
    }

    private static void groupCommit() {
        Check.promise(19);
        ShadowFile file = new ShadowFile();
        file.begin();
        file.begin();
        file.begin();
        file.put(0, 1, 10);
        file.put(0, 2, 10);
        file.put(0, 3, 10);
        file.put(1, 1, 11);
        file.put(1, 2, 11);
        file.put(1, 4, 11);
        file.put(2, 1, 12);
        file.put(2, 4, 12);
        file.remove(2, 1);
        file.ready(2);
        file.ready(0);
        file.ready(1);
        Check.same("commit", file.commit(-1), 1);
        Check.text("the later one counts", Help.records(file), "1=11,2=11,3=10,4=11");
        Check.text("the log", Help.log(file), "1 3 4 6\n");
        Check.same("all slots are idle", file.slotState(0) + file.slotState(1) + file.slotState(2),
                0);
        Help.makeReady(file, "1=20");
        Help.makeReady(file, "-1");
        file.commit(-1);
        Check.text("a later removal counts", Help.records(file), "2=11,3=10,4=11");
        Help.makeReady(file, "-2");
        Help.makeReady(file, "2=30");
        file.commit(-1);
        Check.text("a later value counts", Help.records(file), "2=30,3=10,4=11");
    }

    private static void pagesThatEmpty() {
        Check.promise(19);
        ShadowFile file = new ShadowFile();
        Help.commit(file, "1=5,2=6,10=7");
        Help.makeReady(file, "-1,-2,-7");
        Check.same("commit", file.commit(-1), 2);
        Check.text("the table", Help.block(file, 6), "2 2 0 0 -1 -1 2 -1 -1 -1 -1 -1");
        Check.text("the log", Help.log(file), "2 1 3 3\n1 1 2 4\n");
        Check.same("pageBlock", file.pageBlock(1), -1);
        Check.text("records", Help.records(file), "10=7");
        Check.same("freeCount", file.freeCount(), 28);
    }

    private static void commitWithoutChanges() {
        Check.promise(19);
        ShadowFile file = new ShadowFile();
        Help.commit(file, "1=5");
        Check.same("commit", Help.commit(file, ""), 2);
        Check.text("the table", Help.block(file, 2), "2 2 0 0 -1 3 -1 -1 -1 -1 -1 -1");
        Check.text("the root", Help.block(file, 0), "1 2 2 0 0 0 0 0 0 0 0 0");
        Check.text("the log", Help.log(file), "2 1 0 2\n1 1 1 3\n");
        Check.same("value", file.value(1), 5);
        Help.commit(file, "1=5");
        Check.text("a record that stays is written", Help.block(file, 4),
                "3 3 1 1 5 0 0 0 0 0 0 0");
    }

    private static void commitWrongly() {
        Check.promise(19);
        ShadowFile file = new ShadowFile();
        Check.fails("no slot is ready", file, Check.STATE, () -> file.commit(-1));
        file.begin();
        Check.fails("an active slot is not ready", file, Check.STATE, () -> file.commit(5));
        Check.fails("blocks come first", file, Check.ARGUMENT, () -> file.commit(-2));
        file.ready(0);
        Check.fails("-2 blocks", file, Check.ARGUMENT, () -> file.commit(-2));
        Check.fails("blocks", file, Check.ARGUMENT, () -> file.commit(Integer.MIN_VALUE));
        Check.same("many blocks", file.commit(Integer.MAX_VALUE), 1);
        Help.makeReady(file, "1=1");
        file.commit(0);
        Check.fails("a closed file", file, Check.STATE, () -> file.commit(-1));
        Check.fails("-2 in a closed file", file, Check.ARGUMENT, () -> file.commit(-2));
    }

    private static void commitKeepsActiveSlots() {
        Check.promise(19);
        ShadowFile file = new ShadowFile();
        file.begin();
        file.put(0, 1, 1);
        file.mark(0);
        file.put(0, 1, 2);
        Help.commit(file, "1=9,2=9");
        Check.same("it stays active", file.slotState(0), 1);
        Check.same("its change stays", file.get(0, 1), 2);
        Check.same("its mark stays", file.goBack(0), 1);
        Check.same("its change then", file.get(0, 1), 1);
    }

    private static void lowestFreeBlocks() {
        Check.promise(19);
        ShadowFile file = new ShadowFile();
        Help.commit(file, "0=1,1=1,2=1");
        Check.same("the table", file.cell(1, 2), 6);
        Help.commit(file, "1=2");
        Check.same("page 1", file.pageBlock(1), 2);
        Check.same("the table", file.cell(0, 2), 7);
        Help.commit(file, "0=3,2=3");
        Check.same("page 0", file.pageBlock(0), 4);
        Check.same("page 1", file.pageBlock(1), 2);
        Check.same("page 2", file.pageBlock(2), 6);
        Check.same("the table", file.cell(1, 2), 8);
        file.pin();
        Help.commit(file, "1=4");
        Check.same("page 1", file.pageBlock(1), 3);
        Check.same("the table", file.cell(0, 2), 5);
        Help.commit(file, "1=5");
        Check.same("page 1 beside the pin", file.pageBlock(1), 7);
        Check.same("the table beside the pin", file.cell(1, 2), 9);
    }

    private static final String ALL = "0=1,1=1,2=1,3=1,4=1,5=1,6=1,7=1";

    private static void notEnoughBlocks() {
        Check.promise(19);
        ShadowFile file = new ShadowFile();
        Help.commit(file, ALL);
        file.pin();
        Help.commit(file, ALL);
        file.pin();
        Help.commit(file, ALL);
        Check.same("freeCount", file.freeCount(), 3);
        Help.makeReady(file, "0=2,1=2,2=2");
        Check.fails("four blocks", file, Check.UNSUPPORTED, () -> file.commit(-1));
        Check.fails("four blocks, with a failure", file, Check.UNSUPPORTED, () -> file.commit(0));
        Check.fails("-2 comes first", file, Check.ARGUMENT, () -> file.commit(-2));
        Check.promise(18);
        Check.same("blocksToWrite", file.blocksToWrite(), 5);
        Check.promise(19);
        Help.makeReady(file, "-2");
        Check.same("three blocks", file.commit(-1), 4);
        Check.same("the table takes the last one", file.cell(0, 2), 31);
        Check.same("wrongBlock", file.wrongBlock(), -1);
        file.damage(31, 1, 0);
        Check.promise(30);
        Check.same("wrongBlock", file.wrongBlock(), 31);
        file.damage(31, 1, 4);
        Check.same("wrongBlock", file.wrongBlock(), -1);
        Check.promise(19);
        Check.same("freeCount", file.freeCount(), 4);
        Help.makeReady(file, "3=2,4=2,5=2,6=2");
        Check.fails("five blocks", file, Check.UNSUPPORTED, () -> file.commit(-1));
        Check.same("the slot stays ready", file.slotState(0), 2);
        file.unpin(0);
        Check.same("commit without the pin", file.commit(-1), 5);
    }

    private static void greatestCommitNumber() {
        Check.promise(19);
        ShadowFile file = new ShadowFile();
        Help.change(file, 0, 1, 999998);
        Help.change(file, 2, 1, 999998);
        Check.same("reopen", file.reopen(), 999998);
        Check.same("the last commit", Help.commit(file, "1=1"), 999999);
        Check.same("its root", file.cell(1, 1), 999999);
        Help.makeReady(file, "1=2");
        Check.fails("one more", file, Check.UNSUPPORTED, () -> file.commit(-1));
        Check.fails("one more, with a failure", file, Check.UNSUPPORTED, () -> file.commit(0));
        Check.promise(18);
        Check.same("blocksToWrite", file.blocksToWrite(), 3);
        Check.promise(20);
        Check.same("reopen", file.reopen(), 999999);
    }

    private static void powerFailures() {
        Check.promise(19);
        for (int blocks = 0; blocks <= 6; blocks++) {
            ShadowFile file = new ShadowFile();
            Help.commit(file, "1=1,2=2,3=3");
            String before = Help.records(file);
            Help.makeReady(file, "1=11,2=12");
            file.begin();
            int due = blocks < 4 ? -1 : 2;
            Check.same("commit(" + blocks + ")", file.commit(blocks), due);
            Check.yes("isOpen", file.isOpen() == (due == 2));
            Check.text("the log", Help.log(file), due == 2 ? "2 1 2 4\n1 1 3 5\n"
                    : "-1 1 2 " + blocks + "\n1 1 3 5\n");
            Check.text("statistics", Help.statistics(file), due == 2 ? "2 0 9 0 0 0 0 0\n"
                    : "1 1 " + (5 + blocks) + " 1 0 0 0 0\n");
            if (due == -1) {
                Check.same("reopen", file.reopen(), 1);
                Check.text("the records before", Help.records(file), before);
                Check.same("wrongBlock", file.wrongBlock(), -1);
            } else {
                Check.text("the records behind", Help.records(file), "1=11,2=12,3=3");
                Check.same("the other slot stays active", file.slotState(1), 1);
            }
        }
    }

    private static void partOfABlock() {
        Check.promise(19);
        ShadowFile file = new ShadowFile();
        Help.makeReady(file, "0=1,8=2,16=3,24=4");
        for (int cell = 0; cell < 13; cell++) {
            file.damage(3, cell, 70 + cell);
            file.damage(4, cell, 80 + cell);
            file.damage(1, cell, 90 + cell);
        }
        String table = Help.block(file, 2);
        Check.same("commit", file.commit(0), -1);
        Check.text("six cells of the page", Help.block(file, 3), "3 1 0 15 1 2 76 77 78 79 80 81");
        Check.same("not its checksum", file.cell(3, 12), 82);
        Check.text("not the table", Help.block(file, 4), "80 81 82 83 84 85 86 87 88 89 90 91");
        Check.text("not the table before", Help.block(file, 2), table);
        file.reopen();
        Help.makeReady(file, "0=1,8=2,16=3,24=4");
        Check.same("commit", file.commit(2), -1);
        Check.text("the page", Help.block(file, 3), "3 1 0 15 1 2 3 4 0 0 0 0");
        Check.yes("the page", file.isValid(3));
        Check.text("the table", Help.block(file, 4), "2 1 0 0 3 -1 -1 -1 -1 -1 -1 -1");
        Check.yes("the table", file.isValid(4));
        Check.text("six cells of the root", Help.block(file, 1), "1 1 4 0 0 0 96 97 98 99 100 101");
        Check.same("not the root's checksum", file.cell(1, 12), 102);
    }

    private static void failureEndsPinsAndSlots() {
        Check.promise(19);
        ShadowFile file = new ShadowFile();
        Help.commit(file, "1=1");
        file.pin();
        file.pin();
        file.begin();
        file.put(0, 3, 3);
        Help.makeReady(file, "1=2");
        file.commit(1);
        Check.same("all slots are idle", file.slotState(0) + file.slotState(1), 0);
        Check.failsOnly("pin 0", Check.STATE, () -> file.pinnedCommit(0));
        Check.failsOnly("pin 1", Check.STATE, () -> file.unpin(1));
        Check.promise(21);
        Check.no("isOpen", file.isOpen());
        file.reopen();
        Check.yes("isOpen", file.isOpen());
        Check.promise(20);
        Check.same("freeCount", file.freeCount(), 28);
    }

    private static void reopenTakesTheGreaterRoot() {
        Check.promise(20);
        ShadowFile file = new ShadowFile();
        Check.same("reopen of a new file", file.reopen(), 0);
        Help.commit(file, "1=1,2=2");
        file.pin();
        file.begin();
        Help.makeReady(file, "5=5");
        Check.same("reopen", file.reopen(), 1);
        Check.same("all slots are idle", file.slotState(0) + file.slotState(1), 0);
        Check.same("none is ready", file.blocksToWrite(), 0);
        Check.failsOnly("no pin is used", Check.STATE, () -> file.pinnedCommit(0));
        Check.text("records", Help.records(file), "1=1,2=2");
        Help.commit(file, "1=3");
        Check.same("reopen", file.reopen(), 2);
        Check.text("records", Help.records(file), "1=3,2=2");
        Check.same("pageBlock", file.pageBlock(1), 2);
        Check.same("pageBlock", file.pageBlock(2), 4);
        Check.same("pageBlock", file.pageBlock(3), -1);
        Check.text("statistics", Help.statistics(file), "2 0 7 0 3 0 0 0\n");
        Check.text("the log stays", Help.log(file), "2 1 1 3\n1 1 2 4\n");
        Help.makeReady(file, "1=4");
        file.commit(1);
        Check.same("reopen of a closed file", file.reopen(), 2);
    }

    /** A file with the commits 1 and 2, in which block 3 is page 1 of commit 1, and block 2 of 2. */
    private static ShadowFile twoCommits() {
        ShadowFile file = new ShadowFile();
        Help.commit(file, "1=1");
        Help.commit(file, "1=2");
        return file;
    }

    private static void demand(int due, int block, int cell, int content) {
        ShadowFile file = twoCommits();
        Help.change(file, block, cell, content);
        Check.same("reopen with " + content + " in cell " + cell + " of block " + block,
                file.reopen(), due);
        Check.same("value", file.value(1), due);
        Check.same("wrongBlock", file.wrongBlock(), due == 2 ? -1 : file.wrongBlock());
    }

    private static void reopenDemandsOfTheRoot() {
        Check.promise(20);
        ShadowFile file = twoCommits();
        file.damage(0, 11, 1);
        Check.same("a root that is not valid", file.reopen(), 1);
        demand(1, 0, 0, 2);
        demand(1, 0, 1, -1);
        demand(1, 0, 1, 1000000);
        demand(1, 0, 1, 3);
        demand(1, 0, 2, 1);
        demand(1, 0, 2, -1);
        demand(1, 0, 2, 32);
        demand(1, 0, 2, Integer.MIN_VALUE);
        demand(1, 0, 2, Integer.MAX_VALUE);
        demand(1, 0, 2, 4);
        demand(1, 0, 2, 20);
        demand(2, 0, 3, 7);
        demand(2, 0, 11, 7);
        demand(2, 1, 0, 0);
        ShadowFile negative = new ShadowFile();
        Help.change(negative, 0, 1, -1);
        Help.change(negative, 2, 1, -1);
        Check.failsOnly("a commit number of -1", Check.STATE, negative::reopen);
        ShadowFile great = new ShadowFile();
        Help.change(great, 0, 1, 1000000);
        Help.change(great, 2, 1, 1000000);
        Check.failsOnly("a commit number of 1000000", Check.STATE, great::reopen);
    }

    private static void reopenDemandsOfTheTable() {
        Check.promise(20);
        int table = twoCommits().cell(0, 2);
        Check.same("the table", table, 5);
        ShadowFile file = twoCommits();
        file.damage(table, 2, 1);
        Check.same("a table that is not valid", file.reopen(), 1);
        demand(1, table, 0, 3);
        demand(1, table, 1, 1);
        demand(1, table, 4, -2);
        demand(1, table, 4, 0);
        demand(1, table, 4, 1);
        demand(1, table, 4, 32);
        demand(1, table, 11, Integer.MIN_VALUE);
        demand(1, table, 11, Integer.MAX_VALUE);
        demand(1, table, 5, 20);
        demand(1, table, 6, 2);
        demand(1, table, 5, 4);
        demand(2, table, 2, 9);
        demand(2, table, 3, 9);
        ShadowFile moved = twoCommits();
        Help.change(moved, table, 5, 3);
        Check.same("a page of an older commit", moved.reopen(), 2);
        Check.same("its value", moved.value(1), 1);
    }

    private static void reopenDemandsOfThePages() {
        Check.promise(20);
        ShadowFile file = twoCommits();
        file.damage(2, 11, 1);
        Check.same("a page that is not valid", file.reopen(), 1);
        demand(1, 2, 0, 2);
        demand(1, 2, 2, 2);
        demand(1, 2, 2, 9);
        demand(2, 2, 1, 77);
        demand(2, 2, 1, -77);
        demand(2, 2, 11, 5);
        demand(2, 2, 3, 0xf01);
    }

    private static void reopenTakesRecords() {
        Check.promise(20);
        ShadowFile file = new ShadowFile();
        Help.commit(file, "1=1,9=2,57=3,2=4");
        int page = file.pageBlock(1);
        Help.change(file, page, 3, -2);
        Help.change(file, page, 6, Integer.MIN_VALUE);
        Check.same("reopen", file.reopen(), 1);
        Check.text("records", Help.records(file), "2=4,9=2,17=-2147483648,25=0,33=0,41=0,49=0,57=3");
        Check.same("wrongBlock", file.wrongBlock(), -1);
        Help.change(file, page, 3, 0x100);
        file.reopen();
        Check.text("no bit is set", Help.records(file), "2=4");
        Check.same("the block holds the page all the same", file.pageBlock(1), page);
        Check.same("and is not free", file.freeCount(), 27);
        Check.same("wrongBlock", file.wrongBlock(), -1);
        Help.commit(file, "-1");
        Check.same("the page is left by a commit", file.pageBlock(1), -1);
    }

    private static void reopenOfEqualRoots() {
        Check.promise(20);
        ShadowFile file = new ShadowFile();
        Help.commit(file, "1=1");
        Help.change(file, 0, 1, 1);
        Help.change(file, 2, 1, 1);
        Check.same("reopen", file.reopen(), 1);
        Check.same("block 0 is taken", file.size(), 0);
        Check.promise(30);
        file.damage(1, 0, 7);
        Check.same("block 1 is not the root block", file.wrongBlock(), -1);
        file.damage(0, 0, 7);
        Check.same("block 0 is the root block", file.wrongBlock(), 0);
    }

    private static void reopenWithoutARoot() {
        Check.promise(20);
        ShadowFile file = new ShadowFile();
        Help.commit(file, "1=1");
        file.pin();
        file.begin();
        Help.makeReady(file, "5=5");
        file.damage(0, 0, 7);
        file.damage(1, 0, 7);
        String disk = Help.disk(file);
        Check.failsOnly("reopen", Check.STATE, file::reopen);
        Check.no("isOpen", file.isOpen());
        Check.text("the disk stays", Help.disk(file), disk);
        Check.same("all slots are idle", file.slotState(0) + file.slotState(1), 0);
        Check.failsOnly("no pin is used", Check.STATE, () -> file.pinnedCommit(0));
        Check.same("no slot is ready", file.blocksToWrite(), 0);
        Check.text("statistics", Help.statistics(file), "1 0 3 0 0 1 0 2\n");
        Check.failsOnly("reopen again", Check.STATE, file::reopen);
        file.damage(1, 0, 1);
        Check.same("reopen of the mended root", file.reopen(), 1);
        Check.text("records", Help.records(file), "1=1");
        Check.text("statistics", Help.statistics(file), "1 0 3 0 1 2 0 3\n");
    }

    private static void oddCommitInBlockZero() {
        Check.promise(20);
        ShadowFile file = new ShadowFile();
        Help.change(file, 0, 1, 5);
        Help.change(file, 2, 1, 5);
        Check.same("reopen", file.reopen(), 5);
        Check.same("wrongBlock", file.wrongBlock(), -1);
        Check.promise(19);
        Check.same("commit", Help.commit(file, "1=1"), 6);
        Check.text("the root", Help.block(file, 0), "1 6 4 0 0 0 0 0 0 0 0 0");
        Check.text("not block 1", Help.block(file, 1), "0 0 0 0 0 0 0 0 0 0 0 0");
        Check.same("wrongBlock", file.wrongBlock(), -1);
    }
}
