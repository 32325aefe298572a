import java.io.IOException;

/** Each sentence of the Description, by a test of its own. */
public final class DescriptionSentencesTest {
    private DescriptionSentencesTest() {
    }

    public static void main(String[] args) throws IOException {
        allCalls();
        records();
        disk();
        checksums();
        forms();
        newAndFormatted();
        openAndClosed();
        transactions();
        combination();
        affectedPages();
        orderOfTheBlocks();
        contentsOfTheBlocks();
        lowestFreeBlocks();
        endOfACommit();
        freeBlocks();
        powerFailure();
        pins();
        log();
        refusedCallsChangeNothing();
        orderOfTheExceptions();
        refusedCallsOfAClosedFile();
        doubtsOfTexts();
        doubtsOfTheDisk();
        doubtsOfPins();
        Check.endOfSentences("DescriptionSentencesTest", Document.DESCRIPTION,
                Document.DESCRIPTION);
    }

    private static void sentence(String text) {
        Check.sentence(Document.DESCRIPTION, text);
    }

    private static void allCalls() {
        sentence("An object is used for at most 512 calls after it has been made; what later calls"
                + " answer is free.");
        ShadowFile file = new ShadowFile();
        for (int number = 1; number <= 127; number++) {
            file.begin();
            file.put(0, 63, -number);
            file.ready(0);
            Check.same("call " + 4 * number, file.commit(-1), number);
        }
        Check.same("call 509", file.commitNumber(), 127);
        Check.same("call 510", file.value(63), -127);
        Check.same("call 511", file.reopen(), 127);
        Check.same("call 512", file.value(63), -127);
        ShadowFile greedy = new ShadowFile();
        greedy.begin();
        for (int call = 2; call < 512; call += 2) {
            Check.same("call " + call, greedy.mark(0), 1);
            Check.same("the call behind it", greedy.goBack(0), 0);
        }
        Check.same("call 512", greedy.changes(0), 0);
    }

    private static void records() {
        sentence("A key is an integer from 0 to 63, a value is an integer from -9999 to 9999.");
        ShadowFile file = new ShadowFile();
        file.begin();
        file.put(0, 0, -9999);
        file.put(0, 63, 9999);
        Check.same("the lowest", file.get(0, 0), -9999);
        Check.same("the greatest", file.get(0, 63), 9999);
        for (int key : Help.outside(0, 63)) {
            Check.failsOnly("key " + key, Check.ARGUMENT, () -> file.put(0, key, 0));
        }
        for (int value : Help.outside(-9999, 9999)) {
            Check.failsOnly("value " + value, Check.ARGUMENT, () -> file.put(0, 0, value));
        }

        sentence("A file holds at most one record for each key.");
        ShadowFile twice = Help.with("5=1");
        Help.commit(twice, "5=2,5=3");
        Check.text("one record", Help.records(twice), "5=3");
        Check.same("a full file", Help.full().size(), 64);

        sentence("Key k belongs to the page k % 8.");
        for (int key = 0; key < 64; key++) {
            ShadowFile one = Help.with(key + "=1");
            for (int page = 0; page < 8; page++) {
                Check.same("page " + page + " of key " + key, one.pageBlock(page),
                        page == key % 8 ? 3 : -1);
            }
        }
    }

    private static void disk() {
        sentence("The disk has 32 blocks, numbered from 0, each of which has 13 cells,"
                + " numbered from 0.");
        ShadowFile file = new ShadowFile();
        for (int block = 0; block < 32; block++) {
            for (int cell = 0; cell < 13; cell++) {
                file.damage(block, cell, 100 * block + cell);
            }
        }
        for (int block = 0; block < 32; block++) {
            for (int cell = 0; cell < 13; cell++) {
                Check.same("a cell of its own", file.cell(block, cell), 100 * block + cell);
            }
        }
        Check.failsOnly("block -1", Check.INDEX, () -> file.cell(-1, 0));
        Check.failsOnly("block 32", Check.INDEX, () -> file.cell(32, 0));
        Check.failsOnly("cell -1", Check.INDEX, () -> file.cell(0, -1));
        Check.failsOnly("cell 13", Check.INDEX, () -> file.cell(0, 13));

        sentence("A cell holds an int.");
        file.damage(31, 12, Integer.MIN_VALUE);
        file.damage(0, 0, Integer.MAX_VALUE);
        Check.same("the lowest int", file.cell(31, 12), Integer.MIN_VALUE);
        Check.same("the greatest int", file.cell(0, 0), Integer.MAX_VALUE);
    }

    private static void checksums() {
        sentence("Cell 12 of a block is meant to hold its checksum.");
        ShadowFile file = Help.with("1=-7");
        int[] written = {0, 1, 2, 3, 4};
        for (int block : written) {
            Check.same("cell 12 of block " + block, file.cell(block, 12), file.checksum(block));
        }

        sentence("The checksum of block b is computed as follows: h is b + 17 at first; then, for"
                + " the cells 0 to 11 in this order, h becomes 31 * h plus the cell, with int"
                + " overflow.");
        int[] blocks = {0, 1, 15, 31};
        for (int block : blocks) {
            int h = block + 17;
            for (int cell = 0; cell <= 11; cell++) {
                int content = cell % 2 == 0 ? Integer.MAX_VALUE - cell : Integer.MIN_VALUE + cell;
                file.damage(block, cell, content);
                h = 31 * h + content;
            }
            file.damage(block, 12, 1234567);
            Check.same("the checksum of block " + block, file.checksum(block), h);
        }
        Check.same("the checksum of zeros", zeros(20), zerosByHand(20));

        sentence("A block is valid if its cell 12 is equal to its checksum.");
        Check.no("a wrong cell 12", file.isValid(15));
        file.damage(15, 12, file.checksum(15));
        Check.yes("the right cell 12", file.isValid(15));
        file.damage(15, 12, file.checksum(15) ^ Integer.MIN_VALUE);
        Check.no("one bit of cell 12", file.isValid(15));
    }

    private static int zeros(int block) {
        return new ShadowFile().checksum(block);
    }

    private static int zerosByHand(int block) {
        int h = block + 17;
        for (int cell = 0; cell < 12; cell++) {
            h *= 31;
        }
        return h;
    }

    /** A file whose blocks all held other cells before the commit of the changes. */
    private static ShadowFile overOtherCells(String changes) {
        ShadowFile file = new ShadowFile();
        for (int block = 1; block < 12; block++) {
            for (int cell = 0; cell < 13 && block != 2; cell++) {
                file.damage(block, cell, 70 + cell);
            }
        }
        Help.commit(file, changes);
        return file;
    }

    private static void forms() {
        sentence("The blocks in use have these forms, in which all cells that are not mentioned"
                + " are 0:");
        ShadowFile file = overOtherCells("7=9");
        Check.text("a page", Help.block(file, 3), "3 1 7 1 9 0 0 0 0 0 0 0");
        Check.text("a page table", Help.block(file, 4), "2 1 0 0 -1 -1 -1 -1 -1 -1 -1 3");
        Check.text("a root", Help.block(file, 1), "1 1 4 0 0 0 0 0 0 0 0 0");

        sentence("a root: cell 0 is 1, cell 1 is the commit number, cell 2 is the number of the"
                + " block that holds the page table; the roots are in the blocks 0 and 1;");
        Help.commit(file, "7=10");
        Check.text("the root in block 0", Help.block(file, 0), "1 2 5 0 0 0 0 0 0 0 0 0");
        Check.text("the root in block 1", Help.block(file, 1), "1 1 4 0 0 0 0 0 0 0 0 0");

        sentence("a page table: cell 0 is 2, cell 1 is a commit number, and for each page p, cell"
                + " 4 + p is the number of the block that holds the page, or -1 if the page has no"
                + " records;");
        ShadowFile table = Help.with("0=1,1=1,2=1,3=1,4=1,5=1,6=1,7=1");
        Check.text("all pages", Help.block(table, 11), "2 1 0 0 3 4 5 6 7 8 9 10");
        Help.commit(table, "-0,-3,-7");
        Check.text("three empty pages", Help.block(table, 2), "2 2 0 0 -1 4 5 -1 7 8 9 -1");

        sentence("a page: cell 0 is 3, cell 1 is a commit number, cell 2 is the number of the page"
                + " p, cell 3 is a bit set in which bit i tells whether there is a record with the"
                + " key p + 8 * i, for i = 0 to 7, and for each of these bits that is 1, cell"
                + " 4 + i is the value of the record.");
        for (int i = 0; i < 8; i++) {
            ShadowFile page = Help.with(6 + 8 * i + "=55");
            Check.same("the bits", page.cell(3, 3), 1 << i);
            Check.same("the value", page.cell(3, 4 + i), 55);
        }
        Check.text("a full page", Help.block(Help.full(), 3 + 5),
                "3 1 5 255 -2500 -1700 -900 -100 700 1500 2300 3100");
    }

    private static void newAndFormatted() {
        sentence("In a new or formatted file, block 0 is a root with commit number 0 and page"
                + " table block 2, block 2 is a page table with commit number 0 and only entries"
                + " -1, and all cells of the other blocks are 0.");
        StringBuilder due = new StringBuilder();
        for (int block = 0; block < 32; block++) {
            String zeros = "0 0 0 0 0 0 0 0 0 0 0 0 0\n";
            due.append(block == 0 ? "1 0 2 0 0 0 0 0 0 0 0 0 -956828114\n" : block == 2
                    ? "2 0 0 0 -1 -1 -1 -1 -1 -1 -1 -1 613545425\n" : zeros);
        }
        Check.text("a new file", Help.disk(new ShadowFile()), due.toString());
        ShadowFile file = overOtherCells("7=9");
        file.damage(31, 12, 5);
        file.format();
        Check.text("a formatted file", Help.disk(file), due.toString());
        ShadowFile closed = Help.closed();
        closed.format();
        Check.text("a formatted file that was closed", Help.disk(closed), due.toString());

        sentence("Block 0 and block 2 are valid.");
        Check.yes("block 0", file.isValid(0) && new ShadowFile().isValid(0));
        Check.yes("block 2", file.isValid(2) && new ShadowFile().isValid(2));
    }

    /** Changes every cell of the disk. */
    private static void ruin(ShadowFile file) {
        for (int block = 0; block < 32; block++) {
            for (int cell = 0; cell < 13; cell++) {
                file.damage(block, cell, 4711);
            }
        }
    }

    private static void openAndClosed() {
        sentence("A file is open or closed.");
        Check.yes("a new file is open", new ShadowFile().isOpen());
        Check.no("the power failed", Help.closed().isOpen());

        sentence("If it is open, its present version, that is, its commit number, its page table"
                + " and its records, is kept in memory.");
        ShadowFile file = Help.with("1=1,2=2");
        ruin(file);
        Check.same("the commit number", file.commitNumber(), 1);
        Check.same("the page table", file.pageBlock(1), 3);
        Check.same("an empty page", file.pageBlock(0), -1);
        Check.text("the records", Help.records(file), "1=1,2=2");

        sentence("The disk is read only by reopen, salvage and the methods that describe blocks.");
        Check.same("a commit does not read it", Help.commit(file, "1=5,10=6"), 2);
        Check.text("the records", Help.records(file), "1=5,2=2,10=6");
        Check.same("a page of the commit", file.pageBlock(1), 2);
        Check.text("the page", Help.block(file, 6), "3 2 2 3 2 6 0 0 0 0 0 0");
        Check.same("the free blocks", file.freeCount(), 27);
        Check.same("salvage reads it", file.salvage(), 3);
        Check.no("isValid reads it", file.isValid(8));
    }

    private static void transactions() {
        sentence("There are three slots for transactions, numbered from 0.");
        ShadowFile file = Help.with("1=1,2=2");
        Check.same("the first slot", file.begin(), 0);
        Check.same("the second slot", file.begin(), 1);
        Check.same("the third slot", file.begin(), 2);
        Check.failsOnly("no fourth slot", Check.STATE, file::begin);
        Check.failsOnly("slot 3", Check.INDEX, () -> file.slotState(3));
        Check.failsOnly("slot -1", Check.INDEX, () -> file.slotState(-1));

        sentence("A slot is idle, active, or ready.");
        file.abandon(0);
        file.ready(2);
        Check.same("idle", file.slotState(0), 0);
        Check.same("active", file.slotState(1), 1);
        Check.same("ready", file.slotState(2), 2);

        sentence("An active or ready slot has changes: for some keys, a new value or a removal.");
        file.put(1, 1, 10);
        file.remove(1, 2);
        file.writeChanges(1);
        Check.text("of an active slot", Help.output(file), "1=10,-2");
        file.ready(1);
        file.writeChanges(1);
        Check.text("of a ready slot", Help.output(file), "1=10,-2");
        Check.same("of an idle slot", file.changes(0), 0);

        sentence("The view of a slot is the present version with the changes of the slot.");
        ShadowFile view = Help.with("1=1,2=2,3=3");
        view.begin();
        view.put(0, 1, 10);
        view.remove(0, 2);
        Check.same("a new value", view.get(0, 1), 10);
        Check.failsOnly("a removal", Check.MISSING, () -> view.get(0, 2));
        Check.same("no change", view.get(0, 3), 3);
        Help.commit(view, "1=71,2=72,3=73");
        Check.same("a new value of another version", view.get(0, 1), 10);
        Check.failsOnly("a removal of another version", Check.MISSING, () -> view.get(0, 2));
        Check.same("no change of another version", view.get(0, 3), 73);

        sentence("A slot has at most 3 marks; each of them remembers the changes that the slot had"
                + " when the mark was set.");
        ShadowFile marks = new ShadowFile();
        marks.begin();
        for (int mark = 1; mark <= 3; mark++) {
            marks.put(0, mark, mark);
            Check.same("a mark", marks.mark(0), mark);
        }
        Check.failsOnly("a fourth mark", Check.STATE, () -> marks.mark(0));
        marks.put(0, 1, 99);
        marks.put(0, 63, 63);
        String[] due = {"1=1", "1=1,2=2", "1=1,2=2,3=3"};
        for (int mark = 2; mark >= 0; mark--) {
            marks.goBack(0);
            marks.writeChanges(0);
            Check.text("mark " + mark, Help.output(marks), due[mark]);
        }
    }

    private static void combination() {
        sentence("A commit combines the changes of all ready slots, in the order in which they"
                + " became ready; for the same key, the later one counts.");
        int[][] orders = {{0, 1, 2}, {0, 2, 1}, {1, 0, 2}, {1, 2, 0}, {2, 0, 1}, {2, 1, 0}};
        for (int[] order : orders) {
            ShadowFile file = Help.with("1=1,2=2");
            for (int slot = 0; slot < 3; slot++) {
                file.begin();
                file.put(slot, 1, 10 + slot);
                file.put(slot, 20 + slot, slot);
            }
            file.remove(order[1], 2);
            file.put(order[2], 2, 5);
            for (int slot : order) {
                file.ready(slot);
            }
            file.commit(-1);
            Check.text("the records", Help.records(file),
                    "1=" + (10 + order[2]) + ",2=5,20=0,21=1,22=2");
        }
        ShadowFile removed = Help.with("1=1,2=2");
        Help.makeReady(removed, "1=5");
        Help.makeReady(removed, "-1");
        removed.commit(-1);
        Check.text("a later removal", Help.records(removed), "2=2");
    }

    private static void affectedPages() {
        sentence("The affected pages are the pages of all keys that are changed, even if the"
                + " record stays the same.");
        ShadowFile file = Help.with("1=1,2=2,3=3");
        Help.makeReady(file, "1=1,-4");
        Check.same("blocks", file.blocksToWrite(), 3);
        file.commit(-1);
        Check.same("affected pages", file.logged(0, 2), 2);
        Check.same("the page of the same record is written", file.pageBlock(1), 2);
        Check.same("another page is not", file.pageBlock(2), 4);
        Help.makeReady(file, "9=9");
        Help.makeReady(file, "-9");
        file.commit(-1);
        Check.same("the page of a record that comes and goes", file.logged(0, 2), 1);

        sentence("The commit number c is the present one plus 1.");
        Check.same("commit", Help.commit(file, "1=5"), 4);
        ShadowFile old = Help.with("1=1");
        Help.commit(old, "1=2");
        old.damage(0, 0, 9);
        old.reopen();
        Check.same("commit after an older root was taken", Help.commit(old, "1=3"), 2);
        Check.same("commit after another number", Help.commit(Help.numbered(41), "1=3"), 42);
    }

    /** The commit of 7=..,1=..,0=.. writes these blocks one after the other. */
    private static final int[] ORDER = {3, 4, 5, 6, 1};

    private static ShadowFile threePages() {
        ShadowFile file = new ShadowFile();
        Help.makeReady(file, "7=7,1=1,0=1,8=2,16=3,24=4");
        return file;
    }

    private static String[] rows(ShadowFile file) {
        return Help.disk(file).split("\n");
    }

    private static void orderOfTheBlocks() {
        sentence("These blocks are written, in this order: for each affected page, in ascending"
                + " order, a page with commit number c and its new records, unless it has none; a"
                + " page table with commit number c; and the block c % 2 as a root with commit"
                + " number c.");
        ShadowFile whole = threePages();
        whole.commit(-1);
        String[] due = rows(whole);
        String[] before = rows(new ShadowFile());
        Check.text("page 0", Help.block(whole, 3), "3 1 0 15 1 2 3 4 0 0 0 0");
        Check.text("page 1", Help.block(whole, 4), "3 1 1 1 1 0 0 0 0 0 0 0");
        Check.text("page 7", Help.block(whole, 5), "3 1 7 1 7 0 0 0 0 0 0 0");
        Check.text("the table", Help.block(whole, 6), "2 1 0 0 3 4 -1 -1 -1 -1 -1 5");
        Check.text("the root", Help.block(whole, 1), "1 1 6 0 0 0 0 0 0 0 0 0");
        for (int blocks = 0; blocks < ORDER.length; blocks++) {
            ShadowFile file = threePages();
            file.commit(blocks);
            String[] got = rows(file);
            for (int place = 0; place < ORDER.length; place++) {
                int block = ORDER[place];
                if (place != blocks) {
                    Check.text("block " + block + " behind " + blocks, got[block],
                            place < blocks ? due[block] : before[block]);
                }
            }
        }
        ShadowFile empty = Help.with("2=2,3=3");
        Help.makeReady(empty, "-2,3=4");
        Check.same("a page without records is not written", empty.commit(3), 2);
        Check.text("the root of an even number", Help.block(empty, 0), "1 2 6 0 0 0 0 0 0 0 0 0");
    }

    private static void contentsOfTheBlocks() {
        sentence("Each of them is written with its checksum, and in place of all that the block"
                + " contained.");
        ShadowFile file = overOtherCells("0=1,1=1,7=7");
        for (int block : ORDER) {
            Check.yes("block " + block + " is valid", file.isValid(block));
        }
        Check.text("a page", Help.block(file, 3), "3 1 0 1 1 0 0 0 0 0 0 0");
        Check.text("the root", Help.block(file, 1), "1 1 6 0 0 0 0 0 0 0 0 0");
    }

    private static void lowestFreeBlocks() {
        sentence("Pages and the page table are written to free blocks, the free block with the"
                + " lowest number each time, where blocks that are written by this commit are not"
                + " free any more.");
        ShadowFile file = Help.with("0=1,1=1,2=1");
        Help.commit(file, "1=2");
        Check.same("block 2 is free again", file.pageBlock(1), 2);
        Check.same("the next is behind the used ones", file.cell(0, 2), 7);
        Help.commit(file, "0=2,1=3,2=2");
        Check.same("page 0", file.pageBlock(0), 4);
        Check.same("page 1", file.pageBlock(1), 6);
        Check.same("page 2", file.pageBlock(2), 8);
        Check.same("the table", file.cell(1, 2), 9);
        Help.commit(file, "-0,-1");
        Check.same("a table alone", file.cell(0, 2), 2);
    }

    private static void endOfACommit() {
        sentence("The new version then becomes the present one, and the ready slots become idle.");
        ShadowFile file = Help.with("1=1");
        file.begin();
        file.put(0, 3, 3);
        Help.makeReady(file, "1=2");
        Help.makeReady(file, "2=2");
        file.commit(-1);
        Check.same("the commit number", file.commitNumber(), 2);
        Check.text("the records", Help.records(file), "1=2,2=2");
        Check.same("a ready slot", file.slotState(1), 0);
        Check.same("another ready slot", file.slotState(2), 0);
        Check.same("their changes", file.changes(1) + file.changes(2), 0);
        Check.same("an active slot stays active", file.slotState(0), 1);
        Check.same("its changes stay", file.changes(0), 1);
    }

    private static String free(ShadowFile file) {
        StringBuilder text = new StringBuilder();
        for (int index = 0; index < file.freeCount(); index++) {
            text.append(index == 0 ? "" : " ").append(file.freeBlock(index));
        }
        return text.toString();
    }

    private static void freeBlocks() {
        sentence("A block from 2 to 31 is free if neither the present version nor a pinned version"
                + " uses it.");
        String from12 = " 12 13 14 15 16 17 18 19 20 21 22 23 24 25 26 27 28 29 30 31";
        ShadowFile file = Help.with("0=1,1=1");
        file.pin();
        Check.text("one version", free(file), "2 6 7 8 9 10 11" + from12);
        Help.commit(file, "1=2");
        file.pin();
        Check.text("two versions", free(file), "7 8 9 10 11" + from12);
        Help.commit(file, "1=3");
        Check.text("three versions", free(file), "9 10 11" + from12);
        file.unpin(1);
        Check.text("without pin 1", free(file), "2 6 9 10 11" + from12);
        file.unpin(0);
        Check.text("without pins", free(file), "2 4 5 6 9 10 11" + from12);

        sentence("A version uses the block of its page table and the blocks of its pages.");
        Check.same("a table alone", new ShadowFile().freeCount(), 29);
        Check.same("the table's block", new ShadowFile().freeBlock(0), 3);
        Check.same("a table and eight pages", Help.full().freeCount(), 21);
        Check.same("not block 2", Help.full().freeBlock(0), 2);
        Check.same("but 3 to 11", Help.full().freeBlock(1), 12);
    }

    private static void powerFailure() {
        sentence("If the power fails during a commit, the blocks before the failure are written"
                + " completely, only the cells 0 to 5 of the next one are written, and its other"
                + " cells and all other blocks keep what they contained.");
        for (int blocks = 0; blocks < ORDER.length; blocks++) {
            ShadowFile file = threePages();
            ShadowFile whole = threePages();
            for (int cell = 0; cell < 13; cell++) {
                for (int block : ORDER) {
                    file.damage(block, cell, 1000 + cell);
                }
                file.damage(31, cell, cell);
            }
            String[] before = rows(file);
            whole.commit(-1);
            Check.same("the power fails", file.commit(blocks), -1);
            for (int place = 0; place < ORDER.length; place++) {
                if (place != blocks) {
                    Check.text("block " + ORDER[place], rows(file)[ORDER[place]],
                            place < blocks ? rows(whole)[ORDER[place]] : before[ORDER[place]]);
                }
            }
            int next = ORDER[blocks];
            for (int cell = 0; cell < 13; cell++) {
                Check.same("cell " + cell + " of the next one", file.cell(next, cell),
                        cell <= 5 ? whole.cell(next, cell) : 1000 + cell);
            }
            Check.text("another block", rows(file)[31], before[31]);
            Check.text("the block of the table before", rows(file)[2], before[2]);
        }
        ShadowFile enough = threePages();
        Check.same("it does not fail behind the last block", enough.commit(5), 1);

        sentence("Then the file is closed, all slots become idle, and no version is pinned any"
                + " more.");
        ShadowFile file = Help.with("1=1");
        file.pin();
        file.pin();
        file.begin();
        file.put(0, 1, 1);
        Help.makeReady(file, "1=2");
        Help.makeReady(file, "1=3");
        file.commit(2);
        Check.no("isOpen", file.isOpen());
        for (int slot = 0; slot < 3; slot++) {
            Check.same("slot " + slot, file.slotState(slot), 0);
        }
        Check.failsOnly("pin 0", Check.STATE, () -> file.pinnedCommit(0));
        Check.failsOnly("pin 1", Check.STATE, () -> file.pinnedCommit(1));
    }

    private static void pins() {
        sentence("There are two pins, numbered from 0.");
        ShadowFile file = Help.with("1=1");
        Check.same("the first pin", file.pin(), 0);
        Help.commit(file, "1=2");
        Check.same("the second pin", file.pin(), 1);
        Check.failsOnly("no third pin", Check.STATE, file::pin);
        Check.failsOnly("pin 2", Check.INDEX, () -> file.pinnedCommit(2));
        Check.failsOnly("pin -1", Check.INDEX, () -> file.pinnedCommit(-1));

        sentence("A pin is unused, or holds a version that was the present one when the pin was"
                + " set.");
        Help.commit(file, "1=3");
        Check.same("pin 0", file.pinnedCommit(0), 1);
        Check.same("its value", file.pinnedValue(0, 1), 1);
        Check.same("pin 1", file.pinnedCommit(1), 2);
        Check.same("its value", file.pinnedValue(1, 1), 2);
        file.unpin(0);
        Check.failsOnly("an unused pin", Check.STATE, () -> file.pinnedCommit(0));
        Check.same("the other pin", file.pinnedCommit(1), 2);
    }

    private static void log() {
        sentence("Each call of commit that does not throw an exception is logged with four"
                + " numbers: the commit number, or -1 if the power failed; the number of ready"
                + " slots that it combined; the number of affected pages; and the number of blocks"
                + " that were written completely.");
        ShadowFile file = new ShadowFile();
        Help.makeReady(file, "1=1,2=2");
        Help.makeReady(file, "1=1,-3");
        file.begin();
        file.commit(-1);
        Check.text("a commit", Help.log(file), "1 2 3 4\n");
        file.abandon(2);
        Help.makeReady(file, "5=5");
        file.commit(0);
        Check.text("a power failure", Help.log(file), "-1 1 1 0\n1 2 3 4\n");
        Check.failsOnly("a commit that throws", Check.STATE, () -> file.commit(-1));
        Check.failsOnly("a commit that throws", Check.ARGUMENT, () -> file.commit(-2));
        Check.same("is not logged", file.logSize(), 2);

        sentence("At most the 8 latest entries are kept.");
        ShadowFile many = new ShadowFile();
        for (int number = 1; number <= 9; number++) {
            Help.commit(many, "");
            Check.same("the latest entry", many.logged(0, 0), number);
            Check.same("logSize", many.logSize(), number < 9 ? number : 8);
        }
        Check.same("the eldest entry", many.logged(7, 0), 2);

        sentence("The log is empty at first; nothing else changes it.");
        Check.same("at first", new ShadowFile().logSize(), 0);
        String before = Help.log(many);
        many.pin();
        many.begin();
        many.put(0, 1, 1);
        many.ready(0);
        many.abandon(0);
        many.unpin(0);
        many.salvage();
        many.reopen();
        ruin(many);
        Check.failsOnly("reopen", Check.STATE, many::reopen);
        many.format();
        Check.text("the log", Help.log(many), before);
    }

    /** A file in which slot 0 is active without marks, slot 1 ready, slot 2 idle, pin 0 used. */
    private static ShadowFile busy() {
        ShadowFile file = Help.with("1=1,2=2");
        file.salvage();
        file.pin();
        Help.commit(file, "1=3,4=4");
        file.begin();
        file.put(0, 9, 9);
        file.remove(0, 2);
        Help.makeReady(file, "6=6");
        file.writeChanges(0);
        return file;
    }

    private static void refusedCallsChangeNothing() {
        sentence("A method that throws an exception leaves the state unchanged, unless its"
                + " description says otherwise.");
        ShadowFile file = busy();
        Help.feed(file, "5=55");
        Check.fails("put", file, Check.ARGUMENT, () -> file.put(0, 9, 10000));
        Check.fails("put", file, Check.STATE, () -> file.put(1, 9, 1));
        Check.fails("remove", file, Check.MISSING, () -> file.remove(0, 2));
        Check.fails("get", file, Check.MISSING, () -> file.get(0, 2));
        Check.fails("goBack", file, Check.MISSING, () -> file.goBack(0));
        Check.fails("mark", file, Check.STATE, () -> file.mark(1));
        Check.fails("ready", file, Check.STATE, () -> file.ready(1));
        Check.fails("abandon", file, Check.STATE, () -> file.abandon(2));
        Check.fails("writeChanges", file, Check.STATE, () -> file.writeChanges(2));
        Check.fails("outputAt", file, Check.INDEX, () -> file.outputAt(99));
        Check.fails("commit", file, Check.ARGUMENT, () -> file.commit(-2));
        Check.fails("unpin", file, Check.STATE, () -> file.unpin(1));
        Check.fails("damage", file, Check.INDEX, () -> file.damage(3, 13, 1));
        Check.fails("damage", file, Check.INDEX, () -> file.damage(32, 1, 1));
        Check.fails("adopt", file, Check.STATE, () -> file.adopt(1));
        file.begin();
        Check.fails("begin", file, Check.STATE, file::begin);
        file.pin();
        Check.fails("pin", file, Check.STATE, file::pin);
        Check.same("the input stays", file.readChanges(0), 1);
        Check.same("the input", file.get(0, 5), 55);
        ShadowFile last = Help.numbered(999999);
        Help.makeReady(last, "1=1");
        Check.fails("commit", last, Check.UNSUPPORTED, () -> last.commit(0));
        for (int length = 0; length < 60; length++) {
            last.feed('x');
        }
        Check.fails("feed", last, Check.STATE, () -> last.feed('x'));
        Check.failsOnly("the input is full all the same", Check.STATE, () -> last.feed('x'));
    }

    private static void orderOfTheExceptions() {
        sentence("The exceptions of a method are checked in the order in which they are listed.");
        ShadowFile file = busy();
        Check.fails("put", file, Check.INDEX, () -> file.put(3, 64, 10000));
        Check.fails("put", file, Check.ARGUMENT, () -> file.put(2, 64, 0));
        Check.fails("put", file, Check.ARGUMENT, () -> file.put(2, 0, 10000));
        Check.fails("remove", file, Check.INDEX, () -> file.remove(3, 64));
        Check.fails("remove", file, Check.ARGUMENT, () -> file.remove(2, 64));
        Check.fails("remove", file, Check.STATE, () -> file.remove(2, 50));
        Check.fails("get", file, Check.INDEX, () -> file.get(3, 64));
        Check.fails("get", file, Check.ARGUMENT, () -> file.get(2, 64));
        Check.fails("get", file, Check.STATE, () -> file.get(2, 50));
        Check.fails("goBack", file, Check.STATE, () -> file.goBack(1));
        Check.fails("value", file, Check.ARGUMENT, () -> file.value(64));
        Check.fails("logged", file, Check.INDEX, () -> file.logged(2, 4));
        Check.fails("pinnedValue", file, Check.INDEX, () -> file.pinnedValue(2, 64));
        Check.fails("pinnedValue", file, Check.ARGUMENT, () -> file.pinnedValue(1, 64));
        Check.fails("pinnedValue", file, Check.STATE, () -> file.pinnedValue(1, 50));
        Check.fails("differentKey", file, Check.INDEX, () -> file.differentKey(2, 99));
        Check.fails("differentKey", file, Check.STATE, () -> file.differentKey(1, 99));
        Check.fails("salvaged", file, Check.INDEX, () -> file.salvaged(2, 4));
        ShadowFile fresh = new ShadowFile();
        Check.fails("commit", fresh, Check.ARGUMENT, () -> fresh.commit(-2));
        ShadowFile last = Help.numbered(999999);
        Check.fails("commit", last, Check.STATE, () -> last.commit(-1));
        Help.makeReady(last, "1=1");
        Check.fails("commit", last, Check.ARGUMENT, () -> last.commit(-2));
        ShadowFile closed = Help.closed();
        Check.fails("commit", closed, Check.ARGUMENT, () -> closed.commit(-2));
        Check.fails("value", closed, Check.STATE, () -> closed.value(64));
        Check.fails("keyAt", closed, Check.STATE, () -> closed.keyAt(-1));
        Check.fails("sum", closed, Check.STATE, () -> closed.sum(2, 1));
        Check.fails("pageBlock", closed, Check.STATE, () -> closed.pageBlock(8));
        Check.fails("freeBlock", closed, Check.STATE, () -> closed.freeBlock(-1));
        Check.fails("pinnedValue", closed, Check.ARGUMENT, () -> closed.pinnedValue(0, 64));
    }

    private static void refusedCallsOfAClosedFile() {
        sentence("If the file is closed, all slots are idle and both pins are unused.");
        ShadowFile lost = busy();
        ruin(lost);
        Check.failsOnly("reopen", Check.STATE, lost::reopen);
        ShadowFile cut = busy();
        cut.commit(1);
        ShadowFile[] files = {lost, cut};
        for (ShadowFile file : files) {
            Check.no("isOpen", file.isOpen());
            for (int number = 0; number < 3; number++) {
                int slot = number;
                Check.same("slotState", file.slotState(slot), 0);
                Check.same("changes", file.changes(slot), 0);
                Check.fails("put", file, Check.STATE, () -> file.put(slot, 1, 1));
                Check.fails("remove", file, Check.STATE, () -> file.remove(slot, 1));
                Check.fails("get", file, Check.STATE, () -> file.get(slot, 1));
                Check.fails("mark", file, Check.STATE, () -> file.mark(slot));
                Check.fails("goBack", file, Check.STATE, () -> file.goBack(slot));
                Check.fails("ready", file, Check.STATE, () -> file.ready(slot));
                Check.fails("abandon", file, Check.STATE, () -> file.abandon(slot));
                Check.fails("readChanges", file, Check.STATE, () -> file.readChanges(slot));
                Check.fails("writeChanges", file, Check.STATE, () -> file.writeChanges(slot));
                Check.fails("adopt", file, Check.STATE, () -> file.adopt(slot));
            }
            for (int number = 0; number < 2; number++) {
                int pin = number;
                Check.fails("pinnedValue", file, Check.STATE, () -> file.pinnedValue(pin, 1));
                Check.fails("pinnedCommit", file, Check.STATE, () -> file.pinnedCommit(pin));
                Check.fails("unpin", file, Check.STATE, () -> file.unpin(pin));
                Check.fails("differences", file, Check.STATE, () -> file.differences(pin));
                Check.fails("differentKey", file, Check.STATE, () -> file.differentKey(pin, 0));
            }
            Check.same("blocksToWrite", file.blocksToWrite(), 0);
        }
    }

    /** A file in whose view and present version key 3 is the lowest int, and key 11 the greatest. */
    private static ShadowFile greatValues() {
        ShadowFile file = Help.with("3=1,11=2");
        Help.change(file, 3, 4, Integer.MIN_VALUE);
        Help.change(file, 3, 5, Integer.MAX_VALUE);
        file.salvage();
        file.begin();
        file.adopt(0);
        return file;
    }

    private static void doubtsOfTexts() {
        sentence("Any int that was salvaged becomes a value.");
        ShadowFile file = greatValues();
        Check.same("in the view", file.get(0, 3), Integer.MIN_VALUE);
        file.ready(0);
        Check.same("commit", file.commit(-1), 2);
        Check.same("the lowest", file.value(3), Integer.MIN_VALUE);
        Check.same("the greatest", file.value(11), Integer.MAX_VALUE);
        file.reopen();
        Check.same("on the disk", file.value(3), Integer.MIN_VALUE);

        sentence("All digits of values are written.");
        file.writeRecords();
        Check.text("of records", Help.output(file), "3=-2147483648,11=2147483647");
        ShadowFile changes = greatValues();
        changes.writeChanges(0);
        Check.text("of changes", Help.output(changes), "3=-2147483648,11=2147483647");
        ShadowFile full = Help.full();
        StringBuilder longest = new StringBuilder();
        for (int key = 0; key < 64; key++) {
            Help.change(full, 3 + key % 8, 4 + key / 8, Integer.MIN_VALUE);
            longest.append(key == 0 ? "" : ",").append(key).append("=-2147483648");
        }
        full.salvage();
        full.begin();
        full.adopt(0);
        full.writeChanges(0);
        Check.text("of 64 changes", Help.output(full), longest.toString());
        full.reopen();
        full.writeRecords();
        Check.text("of 64 records", Help.output(full), longest.toString());

        sentence("A commit of ready slots without changes writes a page table and a root, and the"
                + " commit number grows.");
        ShadowFile none = Help.with("1=1");
        Help.makeReady(none, "");
        Help.makeReady(none, "");
        Check.same("blocksToWrite", none.blocksToWrite(), 2);
        Check.same("commit", none.commit(-1), 2);
        Check.text("the page table", Help.block(none, 2), "2 2 0 0 -1 3 -1 -1 -1 -1 -1 -1");
        Check.text("the root", Help.block(none, 0), "1 2 2 0 0 0 0 0 0 0 0 0");
        Check.text("the log", Help.log(none), "2 2 0 2\n1 1 1 3\n");

        sentence("Numbers of texts may begin with zeros, and -0 is 0.");
        ShadowFile texts = Help.with("00=-0,01=0007,02=-0008,03=-00");
        Check.text("records", Help.records(texts), "0=0,1=7,2=-8,3=0");
        Help.commit(texts, "-00,-01");
        Check.text("removals", Help.records(texts), "2=-8,3=0");

        sentence("format and reopen leave the log as it is.");
        String before = Help.log(texts);
        texts.reopen();
        Check.text("reopen", Help.log(texts), before);
        texts.format();
        Check.text("format", Help.log(texts), before);
        ruin(texts);
        Check.failsOnly("reopen", Check.STATE, texts::reopen);
        Check.text("a reopen that throws", Help.log(texts), before);
    }

    private static void doubtsOfTheDisk() {
        sentence("A root with an odd commit number in the block 0 can be taken; the next commit"
                + " writes the block told all the same.");
        ShadowFile odd = Help.numbered(7);
        Check.same("the commit number", odd.commitNumber(), 7);
        Check.same("wrongBlock", odd.wrongBlock(), -1);
        Check.same("commit", Help.commit(odd, "1=1"), 8);
        Check.same("block 0 is written", odd.cell(0, 1), 8);
        Check.same("block 1 is not", odd.cell(1, 1), 0);
        ShadowFile even = Help.with("1=1");
        Help.change(even, 1, 1, 2);
        Help.change(even, 4, 1, 2);
        Check.same("an even one in block 1", even.reopen(), 2);
        Check.same("commit", Help.commit(even, "1=5"), 3);
        Check.same("block 1 is written", even.cell(1, 1), 3);
        Check.same("block 0 is not", even.cell(0, 1), 0);

        sentence("With 0 blocks before the power fails, six cells of the first block are"
                + " written.");
        ShadowFile none = new ShadowFile();
        Help.makeReady(none, "0=1,8=2,16=3");
        Check.same("commit", none.commit(0), -1);
        Check.text("the first block", Help.block(none, 3), "3 1 0 7 1 2 0 0 0 0 0 0");
        Check.same("its checksum is not written", none.cell(3, 12), 0);
        ShadowFile table = new ShadowFile();
        Help.makeReady(table, "");
        table.commit(0);
        Check.text("a page table", Help.block(table, 3), "2 1 0 0 -1 -1 0 0 0 0 0 0");

        sentence("wrongBlock does not look at the commit numbers of page tables and pages.");
        ShadowFile file = Help.with("1=1");
        Help.change(file, 3, 1, 99);
        Help.change(file, 4, 1, -99);
        Check.same("wrongBlock", file.wrongBlock(), -1);
        Help.change(file, 1, 1, 99);
        Check.same("it looks at that of the root", file.wrongBlock(), 1);
    }

    private static void doubtsOfPins() {
        sentence("Pinned versions stay in memory, with their blocks not free, whatever becomes of"
                + " the disk.");
        ShadowFile file = Help.with("1=1,2=2");
        file.pin();
        Help.commit(file, "1=3,2=4");
        ruin(file);
        Check.same("its value", file.pinnedValue(0, 1), 1);
        Check.same("its commit number", file.pinnedCommit(0), 1);
        Check.same("the differences", file.differences(0), 2);
        Check.same("the free blocks", file.freeCount(), 24);
        Check.same("the lowest free block", file.freeBlock(0), 8);
        Help.commit(file, "1=5");
        Check.same("its value behind a commit", file.pinnedValue(0, 1), 1);
    }
}
