import java.io.IOException;

/** Each sentence of the promises 18 to 21, by a test of its own. */
public final class CommitSentencesTest {
    private static final String ALL = "0=1,1=1,2=1,3=1,4=1,5=1,6=1,7=1";

    private CommitSentencesTest() {
    }

    public static void main(String[] args) throws IOException {
        blocksToWrite();
        commit();
        powerOfACommit();
        commitRefused();
        commitUnsupported();
        reopenReadsTheDisk();
        usableRoots();
        usableTables();
        usablePages();
        greaterRoots();
        rootBlock();
        records();
        slotsAndPins();
        reopenRefused();
        isOpen();
        Check.endOfSentences("CommitSentencesTest", 18, 21);
    }

    private static void blocksToWrite() {
        Check.sentence(18, "Returns the number of blocks that a commit would write now.");
        ShadowFile file = Help.with("1=1,2=2");
        Help.makeReady(file, "1=5,9=6");
        Check.same("a page, a table, and a root", file.blocksToWrite(), 3);
        Help.makeReady(file, "-2,-3");
        Check.same("pages without records are not written", file.blocksToWrite(), 3);
        Help.makeReady(file, "-1,-9");
        Check.same("no page", file.blocksToWrite(), 2);
        file.abandon(0);
        file.abandon(1);
        file.abandon(2);
        Help.makeReady(file, ALL);
        Check.same("eight pages", file.blocksToWrite(), 10);
        Help.makeReady(file, "");
        Check.same("and no more", file.blocksToWrite(), 10);
        file.commit(-1);
        Check.same("as the commit wrote", file.logged(0, 3), 10);

        Check.sentence(18, "Returns the number of blocks, 0 if no slot is ready.");
        Check.same("behind a commit", file.blocksToWrite(), 0);
        Check.same("a new file", new ShadowFile().blocksToWrite(), 0);
        file.begin();
        file.put(0, 1, 1);
        Check.same("an active slot", file.blocksToWrite(), 0);
        file.ready(0);
        Check.same("a ready slot", file.blocksToWrite(), 3);
        file.abandon(0);
        Check.same("an abandoned slot", file.blocksToWrite(), 0);
        Check.same("a closed file", Help.closed().blocksToWrite(), 0);
        Help.makeReady(file, "");
        Check.same("a ready slot without changes", file.blocksToWrite(), 2);
    }

    private static void commit() {
        Check.sentence(19, "Commits all ready slots.");
        ShadowFile file = new ShadowFile();
        Help.makeReady(file, "1=1");
        Help.makeReady(file, "2=2");
        file.begin();
        file.put(2, 3, 3);
        int first = file.commit(-1);
        Check.text("the records", Help.records(file), "1=1,2=2");
        Check.same("no slot is ready", file.blocksToWrite(), 0);
        file.ready(2);
        int second = file.commit(-1);
        Check.text("the records", Help.records(file), "1=1,2=2,3=3");

        Check.sentence(19, "Returns the new commit number, or -1 if the power failed.");
        Check.same("the first", first, 1);
        Check.same("the second", second, 2);
        Help.makeReady(file, "1=1");
        Check.same("the power failed", file.commit(2), -1);
    }

    private static void powerOfACommit() {
        Check.sentence(19, "blocks: the number of blocks after which the power fails, or -1 if it"
                + " does not fail; it does not fail either if the commit writes no more blocks than"
                + " this");
        ShadowFile enough = Help.with("1=1");
        ShadowFile few = Help.with("1=1");
        ShadowFile one = Help.with("1=1");
        Help.makeReady(enough, "1=2,2=3");
        Help.makeReady(few, "1=2,2=3");
        Help.makeReady(one, "1=2,2=3");
        Check.same("-1", Help.commit(Help.with("1=1"), "1=2,2=3"), 2);
        Check.same("as many as it writes", enough.commit(4), 2);
        Check.yes("it stays open", enough.isOpen());
        Check.same("one less", few.commit(3), -1);
        Check.no("it is closed", few.isOpen());
        Check.same("more than it writes", one.commit(Integer.MAX_VALUE), 2);
        ShadowFile none = new ShadowFile();
        Help.makeReady(none, "");
        Check.same("two blocks without changes", none.commit(2), 1);
        Help.makeReady(none, "");
        Check.same("one block", none.commit(1), -1);
        Check.same("the interrupted commit is invisible", none.reopen(), 1);
    }

    private static void commitRefused() {
        Check.sentence(19, "Throws IllegalArgumentException if blocks is less than -1");
        ShadowFile file = new ShadowFile();
        Help.makeReady(file, "1=1");
        Check.fails("-2", file, Check.ARGUMENT, () -> file.commit(-2));
        Check.fails("the lowest int", file, Check.ARGUMENT, () -> file.commit(Integer.MIN_VALUE));
        Check.same("-1", file.commit(-1), 1);

        Check.sentence(19, "Throws IllegalStateException if the file is closed, or no slot is"
                + " ready");
        Check.fails("idle slots", file, Check.STATE, () -> file.commit(-1));
        file.begin();
        Check.fails("an active slot", file, Check.STATE, () -> file.commit(0));
        file.ready(0);
        file.abandon(0);
        Check.fails("an abandoned slot", file, Check.STATE, () -> file.commit(-1));
        ShadowFile closed = Help.closed();
        Check.fails("a closed file", closed, Check.STATE, () -> closed.commit(-1));
    }

    /** A file with 3 free blocks: the commits 1 and 2 are pinned, and each uses 9 blocks. */
    private static ShadowFile threeFreeBlocks() {
        ShadowFile file = Help.with(ALL);
        file.pin();
        Help.commit(file, ALL);
        file.pin();
        Help.commit(file, ALL);
        return file;
    }

    private static void commitUnsupported() {
        Check.sentence(19, "Throws UnsupportedOperationException if there are not enough free"
                + " blocks, or the commit number is 999999");
        ShadowFile full = threeFreeBlocks();
        Check.same("freeCount", full.freeCount(), 3);
        Help.makeReady(full, "0=2,1=2,2=2");
        Check.fails("three pages and a table", full, Check.UNSUPPORTED, () -> full.commit(-1));
        Check.fails("with a power failure", full, Check.UNSUPPORTED, () -> full.commit(0));
        full.abandon(0);
        Help.makeReady(full, "0=2,1=2");
        Check.same("two pages and a table", full.commit(-1), 4);
        ShadowFile freed = threeFreeBlocks();
        Help.makeReady(freed, ALL);
        Check.fails("eight pages and a table", freed, Check.UNSUPPORTED, () -> freed.commit(-1));
        freed.unpin(1);
        Check.same("without a pin", freed.commit(-1), 4);
        ShadowFile last = Help.numbered(999998);
        Check.same("the last commit", Help.commit(last, "1=1"), 999999);
        Help.makeReady(last, "1=1");
        Check.fails("one more", last, Check.UNSUPPORTED, () -> last.commit(-1));
        Check.fails("with a power failure", last, Check.UNSUPPORTED, () -> last.commit(0));
        Check.same("the slot stays ready", last.slotState(0), 2);
    }

    private static void reopenReadsTheDisk() {
        Check.sentence(20, "Reads the file from the disk, whether it is open or closed.");
        ShadowFile open = Help.with("1=1,10=2");
        Help.change(open, 3, 4, 77);
        Check.same("an open file", open.reopen(), 1);
        Check.text("its records", Help.records(open), "1=77,10=2");
        Check.same("its page 1", open.pageBlock(1), 3);
        Check.same("its page 2", open.pageBlock(2), 4);
        Check.same("its page 3", open.pageBlock(3), -1);
        Check.same("its free blocks", open.freeCount(), 27);
        ShadowFile closed = Help.closed();
        Check.same("a closed file", closed.reopen(), 1);
        Check.text("its records", Help.records(closed), "1=1");

        Check.sentence(20, "Returns the commit number.");
        Check.same("of a new file", new ShadowFile().reopen(), 0);
        Check.same("the greatest", Help.numbered(999999).reopen(), 999999);
    }

    /** The commit 2 has the root 0, the table 5, and page 1 in block 2; the commit 1 is whole. */
    private static ShadowFile twoCommits() {
        ShadowFile file = Help.with("1=1");
        Help.commit(file, "1=2");
        return file;
    }

    private static void taken(int due, int block, int cell, int content) {
        ShadowFile file = twoCommits();
        Help.change(file, block, cell, content);
        Check.same("reopen with " + content + " in cell " + cell + " of block " + block,
                file.reopen(), due);
        Check.same("its record", file.value(1), due);
    }

    private static void notValid(int block) {
        for (int cell = 0; cell < 13; cell++) {
            ShadowFile file = twoCommits();
            file.damage(block, cell, file.cell(block, cell) + 1000);
            Check.same("reopen with another cell " + cell + " of block " + block, file.reopen(), 1);
        }
    }

    private static void usableRoots() {
        Check.sentence(20, "A root is usable if its block is valid, cell 0 of it is 1, cell 1 of"
                + " it, its commit number, is from 0 to 999999, its page table block is from 2 to"
                + " 31 and valid, cell 0 of that is 2, cell 1 of it is the commit number of the"
                + " root, and each of its entries is -1 or the number from 2 to 31 of a valid block"
                + " whose cell 0 is 3 and whose cell 2 is the number of the page.");
        notValid(0);
        int[] forms = {0, 2, 3, -1, 257};
        for (int form : forms) {
            taken(1, 0, 0, form);
        }
        Check.same("the commit number 0", Help.numbered(0).reopen(), 0);
        Check.same("the commit number 999999", Help.numbered(999999).reopen(), 999999);
        for (int number : Help.outside(0, 999999)) {
            ShadowFile file = new ShadowFile();
            Help.change(file, 0, 1, number);
            Help.change(file, 2, 1, number);
            Check.failsOnly("the commit number " + number, Check.STATE, file::reopen);
        }
        for (int table : Help.outside(2, 31)) {
            taken(1, 0, 2, table);
        }
        taken(1, 0, 2, 0);
        taken(1, 0, 2, 4);
        taken(1, 0, 2, 2);
        taken(1, 0, 2, 31);
        taken(2, 0, 3, 5);
        taken(2, 0, 11, -5);
        tableInTheLastBlock();
        for (int block = 0; block < 2; block++) {
            tableInARootBlock(block);
            pageInARootBlock(block);
        }
    }

    private static void copy(ShadowFile file, int from, int to) {
        for (int cell = 0; cell < 12; cell++) {
            file.damage(to, cell, file.cell(from, cell));
        }
        Help.seal(file, to);
    }

    /** The root in the other block is whole, but for its table, which is no block from 2 on. */
    private static void tableInARootBlock(int block) {
        ShadowFile file = twoCommits();
        copy(file, block == 0 ? 4 : 5, block);
        Help.change(file, 1 - block, 2, block);
        Check.failsOnly("a table in block " + block, Check.STATE, file::reopen);
        Help.change(file, 1 - block, 2, block == 0 ? 4 : 5);
        Check.same("the table itself", file.reopen(), block == 0 ? 1 : 2);
    }

    private static void pageInARootBlock(int block) {
        ShadowFile file = twoCommits();
        int table = block == 0 ? 4 : 5;
        copy(file, 3, block);
        Help.change(file, table, 5, block);
        Check.failsOnly("a page in block " + block, Check.STATE, file::reopen);
        Help.change(file, table, 5, 3);
        Check.same("the page itself", file.reopen(), block == 0 ? 1 : 2);
    }

    private static void tableInTheLastBlock() {
        ShadowFile file = twoCommits();
        copy(file, 5, 31);
        copy(file, 2, 30);
        Help.change(file, 31, 5, 30);
        Help.change(file, 0, 2, 31);
        Check.same("a table in block 31", file.reopen(), 2);
        Check.same("its page", file.pageBlock(1), 30);
        Check.same("the free blocks", file.freeCount(), 28);
        Check.same("wrongBlock", file.wrongBlock(), -1);
        copy(file, 2, 31);
        Help.change(file, 5, 5, 31);
        Help.change(file, 0, 2, 5);
        Check.same("a page in block 31", file.reopen(), 2);
        Check.same("its block", file.pageBlock(1), 31);
        copy(file, 5, 31);
        Help.change(file, 0, 2, 31);
        Check.same("an entry that is no page", file.reopen(), 1);
    }

    private static void usableTables() {
        notValid(5);
        taken(1, 5, 0, 1);
        taken(1, 5, 0, 3);
        taken(1, 5, 1, 1);
        taken(1, 5, 1, 3);
        taken(2, 5, 2, 9);
        taken(2, 5, 3, 9);
        for (int page = 0; page < 8; page++) {
            for (int entry : Help.outside(2, 31)) {
                taken(1, 5, 4 + page, entry == Integer.MIN_VALUE ? -2 : entry);
            }
            taken(1, 5, 4 + page, Integer.MIN_VALUE);
            taken(1, 5, 4 + page, 0);
            taken(1, 5, 4 + page, 20);
        }
        taken(1, 5, 4, 2);
        taken(1, 5, 11, 3);
        taken(1, 5, 5, 4);
        ShadowFile none = twoCommits();
        Help.change(none, 5, 5, -1);
        Check.same("an entry of -1", none.reopen(), 2);
        Check.same("no records", none.size(), 0);
        ShadowFile older = twoCommits();
        Help.change(older, 5, 5, 3);
        Check.same("a page of an older commit", older.reopen(), 2);
        Check.same("its record", older.value(1), 1);
    }

    private static void usablePages() {
        notValid(2);
        taken(1, 2, 0, 1);
        taken(1, 2, 0, 2);
        taken(1, 2, 2, 0);
        taken(1, 2, 2, 2);
        taken(1, 2, 2, 9);
        taken(2, 2, 1, 999);
        taken(2, 2, 1, -1);
        taken(2, 2, 5, 999);
    }

    private static void greaterRoots() {
        Check.sentence(20, "Of the usable roots, the one with the greater commit number is taken,"
                + " and block 0 if both are equal.");
        Check.same("block 0", twoCommits().reopen(), 2);
        ShadowFile three = twoCommits();
        Help.commit(three, "1=3");
        Check.same("block 1", three.reopen(), 3);
        Check.same("its record", three.value(1), 3);
        ShadowFile equal = Help.with("1=1");
        Help.change(equal, 0, 1, 1);
        Help.change(equal, 2, 1, 1);
        Check.same("both are equal", equal.reopen(), 1);
        Check.same("block 0 without records", equal.size(), 0);
        ShadowFile first = Help.with("1=1");
        first.damage(1, 7, 1);
        Check.same("only block 0 is usable", first.reopen(), 0);
        ShadowFile second = twoCommits();
        second.damage(0, 7, 1);
        Check.same("only block 1 is usable", second.reopen(), 1);
    }

    private static void rootBlock() {
        Check.sentence(20, "Its version becomes the present one, with this block as its root block,"
                + " and the file is open.");
        ShadowFile odd = Help.numbered(7);
        Check.same("the commit number", odd.commitNumber(), 7);
        odd.damage(1, 0, 9);
        Check.same("block 1 does not matter", odd.wrongBlock(), -1);
        odd.damage(0, 7, 9);
        Check.same("block 0 is the root block", odd.wrongBlock(), 0);
        ShadowFile even = Help.with("1=1");
        Help.change(even, 1, 1, 2);
        Help.change(even, 4, 1, 2);
        Check.same("an even number in block 1", even.reopen(), 2);
        even.damage(0, 0, 9);
        Check.same("block 0 does not matter", even.wrongBlock(), -1);
        even.damage(1, 7, 9);
        Check.same("block 1 is the root block", even.wrongBlock(), 1);
        ShadowFile back = Help.with("1=1");
        back.damage(1, 0, 9);
        Check.same("block 0 behind block 1", back.reopen(), 0);
        Check.same("block 1 does not matter", back.wrongBlock(), -1);
        ShadowFile older = twoCommits();
        older.damage(0, 0, 9);
        Check.same("block 1 behind block 0", older.reopen(), 1);
        Check.same("block 0 does not matter", older.wrongBlock(), -1);
        ShadowFile closed = Help.closed();
        closed.reopen();
        Check.yes("the file is open", closed.isOpen());

        Check.sentence(20, "Otherwise, the root block is the one that was written by the latest"
                + " commit, and 0 in a new or formatted file.");
        ShadowFile file = new ShadowFile();
        for (int number = 0; number < 4; number++) {
            file.damage(1 - number % 2, 7, 9);
            Check.same("behind commit " + number, file.wrongBlock(), -1);
            file.damage(number % 2, 7, 9);
            Check.same("behind commit " + number, file.wrongBlock(), number % 2);
            file.damage(number % 2, 7, 0);
            Help.commit(file, "1=1");
        }
        ShadowFile formatted = Help.with("1=1");
        formatted.format();
        formatted.damage(1, 7, 9);
        Check.same("a formatted file", formatted.wrongBlock(), -1);
        formatted.damage(0, 7, 9);
        Check.same("a formatted file", formatted.wrongBlock(), 0);
        ShadowFile behind = Help.numbered(7);
        Help.commit(behind, "1=1");
        Help.commit(behind, "1=1");
        behind.damage(0, 7, 9);
        Check.same("a commit behind reopen", behind.wrongBlock(), -1);
        behind.damage(1, 7, 9);
        Check.same("a commit behind reopen", behind.wrongBlock(), 1);
    }

    private static void records() {
        Check.sentence(20, "Of a page, only the values of the keys whose bits are set are"
                + " records.");
        for (int bit = 0; bit < 8; bit++) {
            ShadowFile file = Help.full();
            Help.change(file, 3 + 6, 3, 255 - (1 << bit));
            file.reopen();
            int key = 6 + 8 * bit;
            Check.same("one record less", file.size(), 63);
            Check.fails("key " + key, file, Check.MISSING, () -> file.value(key));
            Help.change(file, 3 + 6, 3, 1 << bit);
            file.reopen();
            Check.same("one record of the page", file.size(), 57);
            Check.same("key " + key, file.value(key), 100 * key - 3000);
        }
        ShadowFile more = Help.with("1=1");
        Help.change(more, 3, 3, 1 + 256 + Integer.MIN_VALUE);
        more.reopen();
        Check.text("other bits do not matter", Help.records(more), "1=1");
        Help.change(more, 3, 3, 256);
        more.reopen();
        Check.same("no bit", more.size(), 0);
        Help.change(more, 3, 3, -1);
        Help.change(more, 3, 11, Integer.MIN_VALUE);
        more.reopen();
        Check.text("all bits", Help.records(more),
                "1=1,9=0,17=0,25=0,33=0,41=0,49=0,57=-2147483648");
    }

    private static ShadowFile busy() {
        ShadowFile file = Help.with("1=1");
        file.pin();
        file.pin();
        file.begin();
        Help.makeReady(file, "1=2");
        Help.makeReady(file, "1=3");
        return file;
    }

    private static void nothingIsLeft(ShadowFile file) {
        for (int slot = 0; slot < 3; slot++) {
            Check.same("slot " + slot, file.slotState(slot), 0);
            Check.same("its changes", file.changes(slot), 0);
        }
        Check.failsOnly("pin 0", Check.STATE, () -> file.pinnedCommit(0));
        Check.failsOnly("pin 1", Check.STATE, () -> file.pinnedCommit(1));
        Check.same("none is ready", file.blocksToWrite(), 0);
    }

    private static void slotsAndPins() {
        Check.sentence(20, "All slots become idle, and both pins become unused, also if an"
                + " exception is thrown.");
        ShadowFile file = busy();
        file.reopen();
        nothingIsLeft(file);
        Check.same("the free blocks", file.freeCount(), 28);
        ShadowFile lost = busy();
        lost.damage(0, 0, 9);
        lost.damage(1, 0, 9);
        Check.failsOnly("reopen", Check.STATE, lost::reopen);
        nothingIsLeft(lost);
        lost.format();
        nothingIsLeft(lost);
        Check.same("the free blocks", lost.freeCount(), 29);
    }

    private static void reopenRefused() {
        Check.sentence(20, "Throws IllegalStateException if no root is usable; the file is closed"
                + " then");
        ShadowFile file = Help.with("1=1");
        file.salvage();
        file.writeRecords();
        Help.feed(file, "-1");
        file.damage(0, 12, 9);
        Check.same("one root is usable", file.reopen(), 1);
        file.damage(1, 12, 9);
        String disk = Help.disk(file);
        Check.failsOnly("no root is usable", Check.STATE, file::reopen);
        Check.no("the file is closed", file.isOpen());
        Check.failsOnly("a closed file", Check.STATE, file::commitNumber);
        Check.failsOnly("again", Check.STATE, file::reopen);
        Check.text("the disk stays", Help.disk(file), disk);
        Check.text("the log stays", Help.log(file), "1 1 1 3\n");
        Check.text("the output stays", Help.output(file), "1=1");
        Check.text("what was salvaged stays", Help.salvaged(file), "1 1 1 3\n");
        Check.same("the input stays", Help.inputLength(file), 2);
        Check.text("the statistics", Help.statistics(file), "1 0 3 0 1 2 1 2\n");
        Help.seal(file, 1);
        Check.same("a mended root", file.reopen(), 1);
        Check.text("its records", Help.records(file), "1=1");
    }

    private static void isOpen() {
        Check.sentence(21, "Returns whether the file is open.");
        ShadowFile file = new ShadowFile();
        Check.yes("a new file", file.isOpen());
        Help.commit(file, "1=1");
        Check.yes("behind a commit", file.isOpen());
        Help.makeReady(file, "1=1");
        file.commit(2);
        Check.no("behind a power failure", file.isOpen());
        file.reopen();
        Check.yes("behind reopen", file.isOpen());

        Check.sentence(21, "Returns whether it is open.");
        file.damage(0, 0, 9);
        file.damage(1, 0, 9);
        Check.yes("behind damage", file.isOpen());
        Check.failsOnly("reopen", Check.STATE, file::reopen);
        Check.no("behind a reopen that throws", file.isOpen());
        file.format();
        Check.yes("behind format", file.isOpen());
    }
}
