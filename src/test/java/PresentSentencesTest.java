import java.io.IOException;

/** Each sentence of the promises 22 to 30, by a test of its own. */
public final class PresentSentencesTest {
    private static final String CLOSED = "Throws IllegalStateException if the file is closed";
    private static final String NO_INDEX =
            "Throws IndexOutOfBoundsException if there is no such index";
    private static final String ALL = "0=1,1=1,2=1,3=1,4=1,5=1,6=1,7=1";

    private interface FileCall {
        Object of(ShadowFile file);
    }

    private PresentSentencesTest() {
    }

    public static void main(String[] args) throws IOException {
        commitNumber();
        size();
        value();
        keyAt();
        sum();
        pageBlock();
        freeCount();
        freeBlock();
        whichBlocksAreWrong();
        wrongRoots();
        wrongTables();
        wrongPages();
        whatDoesNotMatter();
        lowestWrongBlock();
        Check.endOfSentences("PresentSentencesTest", 22, 30);
    }

    private static void closed(int promise, FileCall call) {
        Check.sentence(promise, CLOSED);
        ShadowFile cut = Help.closed();
        Check.fails("the power failed", cut, Check.STATE, () -> call.of(cut));
        ShadowFile lost = Help.with("1=1");
        lost.damage(0, 12, 9);
        lost.damage(1, 12, 9);
        Check.failsOnly("reopen", Check.STATE, lost::reopen);
        Check.fails("no root was usable", lost, Check.STATE, () -> call.of(lost));
    }

    private static void commitNumber() {
        Check.sentence(22, "Returns the commit number.");
        ShadowFile file = new ShadowFile();
        Check.same("of a new file", file.commitNumber(), 0);
        Help.commit(file, "1=1");
        Check.same("behind a commit", file.commitNumber(), 1);
        Help.commit(file, "");
        Check.same("behind a commit without changes", file.commitNumber(), 2);
        file.damage(0, 0, 9);
        file.reopen();
        Check.same("behind reopen", file.commitNumber(), 1);
        file.format();
        Check.same("behind format", file.commitNumber(), 0);
        Check.same("the greatest", Help.numbered(999999).commitNumber(), 999999);

        closed(22, ShadowFile::commitNumber);
    }

    private static void size() {
        Check.sentence(23, "Returns the number of records.");
        ShadowFile file = new ShadowFile();
        Check.same("an empty file", file.size(), 0);
        Help.commit(file, "0=0,63=0");
        Check.same("two records", file.size(), 2);
        Help.commit(file, "0=1,1=1");
        Check.same("a new value is no new record", file.size(), 3);
        Help.commit(file, "-0,-1,-2,-63");
        Check.same("an empty file again", file.size(), 0);
        file.begin();
        file.put(0, 1, 1);
        Check.same("changes do not count", file.size(), 0);
        Check.same("a full file", Help.full().size(), 64);

        closed(23, ShadowFile::size);
    }

    private static void value() {
        Check.sentence(24, "Returns a value of the present version.");
        ShadowFile file = Help.with("1=1");
        file.begin();
        file.put(0, 1, 2);
        Check.same("changes do not count", file.value(1), 1);
        file.ready(0);
        Check.same("nor those of a ready slot", file.value(1), 1);
        file.commit(-1);
        Check.same("a committed change", file.value(1), 2);

        Check.sentence(24, "Returns the value.");
        Help.commit(file, "0=-9999,63=9999,8=0");
        Check.same("the lowest", file.value(0), -9999);
        Check.same("the greatest", file.value(63), 9999);
        Check.same("zero", file.value(8), 0);

        closed(24, other -> other.value(1));

        Check.sentence(24, "Throws IllegalArgumentException if the key is out of range");
        for (int key : Help.outside(0, 63)) {
            Check.fails("key " + key, file, Check.ARGUMENT, () -> file.value(key));
        }

        Check.sentence(24, "Throws NoSuchElementException if there is no record with the key");
        Check.fails("never a record", file, Check.MISSING, () -> file.value(2));
        Help.commit(file, "-0,-63");
        Check.fails("key 0", file, Check.MISSING, () -> file.value(0));
        Check.fails("key 63", file, Check.MISSING, () -> file.value(63));
    }

    private static void keyAt() {
        Check.sentence(25, "Returns a key of the present version.");
        ShadowFile file = Help.with("63=1,8=1,0=1,1=1");
        file.begin();
        file.put(0, 2, 2);
        file.remove(0, 0);
        Check.same("changes do not count", file.keyAt(0), 0);
        Check.same("changes do not count", file.keyAt(2), 8);

        Check.sentence(25, "index: the index in ascending order of the keys, from 0");
        int[] due = {0, 1, 8, 63};
        for (int index = 0; index < due.length; index++) {
            Check.same("index " + index, file.keyAt(index), due[index]);
        }

        Check.sentence(25, "Returns the key.");
        ShadowFile full = Help.full();
        for (int key = 0; key < 64; key++) {
            Check.same("key " + key, full.keyAt(key), key);
        }

        closed(25, other -> other.keyAt(0));

        Check.sentence(25, NO_INDEX);
        for (int index : Help.outside(0, 3)) {
            Check.fails("index " + index, file, Check.INDEX, () -> file.keyAt(index));
        }
        for (int index : Help.outside(0, 63)) {
            Check.fails("index " + index, full, Check.INDEX, () -> full.keyAt(index));
        }
        ShadowFile empty = new ShadowFile();
        Check.fails("an empty file", empty, Check.INDEX, () -> empty.keyAt(0));
    }

    private static void sum() {
        Check.sentence(26, "Returns the sum of the values of all records whose key is from low to"
                + " high, with int overflow.");
        ShadowFile file = Help.with("0=1,8=20,9=-300,10=4000,63=50");
        file.begin();
        file.put(0, 8, 9999);
        Check.same("all", file.sum(0, 63), 3771);
        Check.same("the borders count", file.sum(8, 10), 3720);
        Check.same("not beyond them", file.sum(9, 9), -300);
        Check.same("the lowest key", file.sum(0, 0), 1);
        Check.same("the greatest key", file.sum(63, 63), 50);
        Check.same("no record", file.sum(11, 62), 0);
        Check.same("an empty file", new ShadowFile().sum(0, 63), 0);
        int block = file.pageBlock(0);
        Help.change(file, block, 5, Integer.MAX_VALUE);
        file.reopen();
        Check.same("beyond the greatest int", file.sum(0, 8), Integer.MIN_VALUE);
        Help.change(file, block, 5, Integer.MIN_VALUE);
        file.reopen();
        Check.same("beyond the lowest int", file.sum(8, 9), Integer.MAX_VALUE - 299);

        Check.sentence(26, "Returns the sum.");
        int due = 0;
        for (int key = 0; key < 64; key++) {
            due += 100 * key - 3000;
        }
        Check.same("a full file", Help.full().sum(0, 63), due);

        closed(26, other -> other.sum(0, 63));

        Check.sentence(26, "Throws IllegalArgumentException if low or high is out of range, or low"
                + " is greater than high");
        for (int key : Help.outside(0, 63)) {
            Check.fails("low " + key, file, Check.ARGUMENT, () -> file.sum(key, 63));
            Check.fails("high " + key, file, Check.ARGUMENT, () -> file.sum(0, key));
            Check.fails("both " + key, file, Check.ARGUMENT, () -> file.sum(key, key));
        }
        Check.fails("1 to 0", file, Check.ARGUMENT, () -> file.sum(1, 0));
        Check.fails("63 to 62", file, Check.ARGUMENT, () -> file.sum(63, 62));
    }

    private static void pageBlock() {
        Check.sentence(27, "Returns the block that holds a page of the present version.");
        ShadowFile file = Help.with("1=1,2=2");
        Check.same("page 1", file.pageBlock(1), 3);
        Help.commit(file, "1=2");
        Check.same("page 1 behind a commit", file.pageBlock(1), 2);
        Check.same("page 2 behind a commit", file.pageBlock(2), 4);
        file.damage(file.cell(0, 2), 5, 30);
        Check.same("it is kept in memory", file.pageBlock(1), 2);

        Check.sentence(27, "Returns the number of the block, or -1 if the page has no records.");
        Check.same("page 0", file.pageBlock(0), -1);
        Check.same("page 7", file.pageBlock(7), -1);
        Help.commit(file, "-1");
        Check.same("an emptied page", file.pageBlock(1), -1);
        ShadowFile full = Help.full();
        for (int page = 0; page < 8; page++) {
            Check.same("page " + page + " of a full file", full.pageBlock(page), 3 + page);
        }

        closed(27, other -> other.pageBlock(1));

        Check.sentence(27, "Throws IndexOutOfBoundsException if there is no such page");
        for (int page : Help.outside(0, 7)) {
            Check.fails("page " + page, file, Check.INDEX, () -> file.pageBlock(page));
        }
    }

    private static void freeCount() {
        Check.sentence(28, "Returns the number of free blocks.");
        ShadowFile file = new ShadowFile();
        Check.same("a new file", file.freeCount(), 29);
        Help.commit(file, "1=1,2=2");
        Check.same("two pages", file.freeCount(), 27);
        file.pin();
        Check.same("a pin of the same version", file.freeCount(), 27);
        Help.commit(file, "1=2");
        Check.same("a shared page", file.freeCount(), 25);
        file.pin();
        Help.commit(file, "-1,-2");
        Check.same("two pins", file.freeCount(), 24);
        file.unpin(0);
        Check.same("a page and a table less", file.freeCount(), 26);
        Check.same("a full file", Help.full().freeCount(), 21);
        ShadowFile least = Help.full();
        for (int pin = 0; pin < 2; pin++) {
            least.pin();
            Help.commit(least, ALL);
        }
        Check.same("two pins of a full file", least.freeCount(), 3);

        closed(28, ShadowFile::freeCount);
    }

    /** A file whose table is in block 31: two other versions are pinned until the commit of it. */
    private static ShadowFile leastFree() {
        ShadowFile file = Help.full();
        file.pin();
        Help.commit(file, ALL);
        file.pin();
        Help.commit(file, ALL);
        Help.commit(file, "0=2,1=2");
        file.unpin(0);
        file.unpin(1);
        return file;
    }

    private static void freeBlock() {
        Check.sentence(29, "Returns a free block.");
        ShadowFile file = Help.with("1=1,2=2");
        Help.commit(file, "1=2");
        for (int index = 0; index < file.freeCount(); index++) {
            int block = file.freeBlock(index);
            boolean used = block == 2 || block == 4 || block == 6;
            Check.no("block " + block + " is used", used || block < 2 || block > 31);
        }

        Check.sentence(29, "index: the index in ascending order of the free blocks, from 0");
        int[] due = {3, 5, 7, 8, 9};
        for (int index = 0; index < due.length; index++) {
            Check.same("index " + index, file.freeBlock(index), due[index]);
        }

        Check.sentence(29, "Returns the number of the block.");
        Check.same("the last one", file.freeBlock(26), 31);
        Check.same("of a new file", new ShadowFile().freeBlock(0), 3);
        Check.same("of a full file", Help.full().freeBlock(0), 2);

        closed(29, other -> other.freeBlock(0));

        Check.sentence(29, NO_INDEX);
        for (int index : Help.outside(0, 26)) {
            Check.fails("index " + index, file, Check.INDEX, () -> file.freeBlock(index));
        }
    }

    /** Commit 2 is in the root block 0, the table block 6, and the pages 1 and 2 in 2 and 4. */
    private static ShadowFile twoPages() {
        ShadowFile file = Help.with("1=1,2=2");
        Help.commit(file, "1=3,9=4");
        return file;
    }

    private static void wrong(int due, int block, int cell, int content) {
        ShadowFile file = twoPages();
        Help.change(file, block, cell, content);
        Check.same("wrongBlock with " + content + " in cell " + cell + " of block " + block,
                file.wrongBlock(), due);
    }

    private static void whichBlocksAreWrong() {
        Check.sentence(30, "Compares the present version with the disk.");
        ShadowFile file = twoPages();
        Check.same("as it was written", file.wrongBlock(), -1);
        file.begin();
        file.put(0, 1, 9);
        Check.same("changes do not count", file.wrongBlock(), -1);
        Help.change(file, 2, 4, 9);
        Check.same("a value of the disk", file.wrongBlock(), 2);
        file.reopen();
        Check.same("read from the disk", file.wrongBlock(), -1);

        Check.sentence(30, "A block is wrong if it is not valid, or: for the root block, if cell 0"
                + " is not 1, cell 1 is not the commit number, or cell 2 is not the page table"
                + " block; for the page table block, if cell 0 is not 2 or an entry is not the one"
                + " of the present version; for the block of a page, if cell 0 is not 3, cell 2 is"
                + " not the page, cell 3 has other bits from 0 to 7 than the records of the page,"
                + " or a value is another one.");
        int[] used = {0, 2, 4, 6};
        for (int block : used) {
            for (int cell = 0; cell < 13; cell++) {
                ShadowFile other = twoPages();
                other.damage(block, cell, other.cell(block, cell) + 1);
                Check.same("cell " + cell + " of block " + block, other.wrongBlock(), block);
            }
        }
    }

    private static void wrongRoots() {
        wrong(0, 0, 0, 2);
        wrong(0, 0, 0, 0);
        wrong(0, 0, 1, 1);
        wrong(0, 0, 1, 3);
        wrong(0, 0, 2, 5);
        wrong(0, 0, 2, -1);
        ShadowFile first = Help.with("1=1");
        Help.change(first, 1, 2, 2);
        Check.same("the root in block 1", first.wrongBlock(), 1);
    }

    private static void wrongTables() {
        wrong(6, 6, 0, 1);
        wrong(6, 6, 0, 3);
        int[] entries = {-1, 2, 4, -1, -1, -1, -1, -1};
        for (int page = 0; page < 8; page++) {
            wrong(6, 6, 4 + page, entries[page] + 1);
            wrong(6, 6, 4 + page, entries[page] - 1);
        }
        wrong(6, 6, 5, -1);
        ShadowFile fresh = new ShadowFile();
        Help.change(fresh, 2, 11, 2);
        Check.same("the table of a new file", fresh.wrongBlock(), 2);
    }

    private static void wrongPages() {
        for (int page = 0; page < 8; page++) {
            ShadowFile full = Help.full();
            Help.change(full, 3 + page, 2, page ^ 1);
            Check.same("page " + page, full.wrongBlock(), 3 + page);
        }
        ShadowFile last = leastFree();
        last.damage(28, 12, 9);
        Check.same("a block that is free", last.wrongBlock(), -1);
        last.damage(31, 12, 9);
        Check.same("the table in block 31", last.wrongBlock(), 31);
        wrong(2, 2, 0, 2);
        wrong(2, 2, 2, 0);
        wrong(2, 2, 2, 9);
        wrong(2, 2, 4, 1);
        wrong(2, 2, 5, 5);
        wrong(4, 4, 4, 3);
        for (int bit = 0; bit < 8; bit++) {
            wrong(2, 2, 3, 3 ^ 1 << bit);
            ShadowFile full = Help.full();
            Help.change(full, 3 + 7, 4 + bit, 1);
            Check.same("value " + bit, full.wrongBlock(), 3 + 7);
            Help.change(full, 3 + 7, 4 + bit, 100 * (7 + 8 * bit) - 3000);
            Check.same("its old value", full.wrongBlock(), -1);
            Help.change(full, 3 + 7, 3, 255 ^ 1 << bit);
            Check.same("bit " + bit, full.wrongBlock(), 3 + 7);
        }
    }

    private static void whatDoesNotMatter() {
        Check.sentence(30, "All other cells and blocks do not matter, except for the checksums.");
        for (int cell = 3; cell < 12; cell++) {
            wrong(-1, 0, cell, 9);
        }
        for (int cell = 1; cell < 4; cell++) {
            wrong(-1, 6, cell, 9);
        }
        wrong(-1, 2, 1, 9);
        for (int bit = 8; bit < 32; bit++) {
            wrong(-1, 2, 3, 3 ^ 1 << bit);
        }
        for (int cell = 6; cell < 12; cell++) {
            wrong(-1, 2, cell, 9);
        }
        for (int block = 1; block < 32; block++) {
            boolean used = block == 2 || block == 4 || block == 6;
            ShadowFile file = twoPages();
            for (int cell = 0; cell < 13 && !used; cell++) {
                file.damage(block, cell, 9);
            }
            Check.same("block " + block, file.wrongBlock(), -1);
        }
        ShadowFile checksum = twoPages();
        checksum.damage(0, 11, 9);
        Check.same("a cell that does not matter, but for the checksum", checksum.wrongBlock(), 0);
    }

    private static void lowestWrongBlock() {
        Check.sentence(30, "Returns the wrong block with the lowest number, or -1 if no block is"
                + " wrong.");
        ShadowFile file = twoPages();
        int[] blocks = {6, 4, 2, 0};
        for (int block : blocks) {
            file.damage(block, 12, 9);
            Check.same("wrongBlock", file.wrongBlock(), block);
        }
        for (int block : blocks) {
            Help.seal(file, block);
        }
        Check.same("all are mended", file.wrongBlock(), -1);
        Check.same("a new file", new ShadowFile().wrongBlock(), -1);
        Check.same("a full file", Help.full().wrongBlock(), -1);

        closed(30, ShadowFile::wrongBlock);
    }
}
