/** Promises 22 to 30: the present version. */
public final class PresentTest {
    private PresentTest() {
    }

    public static void main(String[] args) {
        numberAndSize();
        value();
        keyAt();
        sum();
        pageBlock();
        free();
        wrongBlock();
        wrongBlockIsTheLowest();
        closedFile();
        Check.end("PresentTest");
    }

    private static void numberAndSize() {
        ShadowFile file = new ShadowFile();
        Check.promise(22);
        Check.same("commitNumber", file.commitNumber(), 0);
        Help.commit(file, "0=1,63=2");
        Help.commit(file, "-0");
        Help.commit(file, "3=3,4=4");
        Check.same("commitNumber", file.commitNumber(), 3);
        Check.promise(23);
        Check.same("size", file.size(), 3);
        file.begin();
        file.put(0, 5, 5);
        Check.same("changes do not count", file.size(), 3);
    }

    private static void value() {
        Check.promise(24);
        ShadowFile file = new ShadowFile();
        Help.commit(file, "0=-9999,63=9999,7=0");
        Check.same("value", file.value(0), -9999);
        Check.same("value", file.value(63), 9999);
        Check.same("value", file.value(7), 0);
        Check.fails("no record", file, Check.MISSING, () -> file.value(8));
        Check.fails("key -1", file, Check.ARGUMENT, () -> file.value(-1));
        Check.fails("key 64", file, Check.ARGUMENT, () -> file.value(64));
        Help.commit(file, "-7");
        Check.fails("a removed record", file, Check.MISSING, () -> file.value(7));
    }

    private static void keyAt() {
        Check.promise(25);
        ShadowFile file = new ShadowFile();
        Check.fails("no record", file, Check.INDEX, () -> file.keyAt(0));
        Help.commit(file, "63=1,8=1,0=1,1=1");
        Check.same("keyAt", file.keyAt(0), 0);
        Check.same("keyAt", file.keyAt(1), 1);
        Check.same("keyAt", file.keyAt(2), 8);
        Check.same("keyAt", file.keyAt(3), 63);
        Check.fails("keyAt 4", file, Check.INDEX, () -> file.keyAt(4));
        Check.fails("keyAt -1", file, Check.INDEX, () -> file.keyAt(-1));
        Check.fails("keyAt", file, Check.INDEX, () -> file.keyAt(Integer.MIN_VALUE));
        Check.fails("keyAt", file, Check.INDEX, () -> file.keyAt(Integer.MAX_VALUE));
    }

    private static void sum() {
        Check.promise(26);
        ShadowFile file = new ShadowFile();
        Check.same("no records", file.sum(0, 63), 0);
        Help.commit(file, "0=1,10=20,11=-300,63=4000");
        Check.same("all", file.sum(0, 63), 3721);
        Check.same("some", file.sum(10, 11), -280);
        Check.same("one", file.sum(63, 63), 4000);
        Check.same("none", file.sum(12, 62), 0);
        Check.same("the lowest", file.sum(0, 0), 1);
        int[][] wrong = {{-1, 5}, {5, 64}, {64, 64}, {-1, -1}, {6, 5}, {63, 0}, {64, 3}};
        for (int[] pair : wrong) {
            Check.fails("sum " + pair[0] + " to " + pair[1], file, Check.ARGUMENT,
                    () -> file.sum(pair[0], pair[1]));
        }
        Help.change(file, file.pageBlock(0), 4, Integer.MAX_VALUE);
        file.reopen();
        Check.same("int overflow", file.sum(0, 10), Integer.MIN_VALUE + 19);
    }

    private static void pageBlock() {
        Check.promise(27);
        ShadowFile file = new ShadowFile();
        Help.commit(file, "7=1,9=1");
        int[] due = {-1, 3, -1, -1, -1, -1, -1, 4};
        for (int page = 0; page < 8; page++) {
            Check.same("pageBlock " + page, file.pageBlock(page), due[page]);
        }
        Check.fails("page 8", file, Check.INDEX, () -> file.pageBlock(8));
        Check.fails("page -1", file, Check.INDEX, () -> file.pageBlock(-1));
        file.damage(1, 2, 9);
        file.damage(5, 5, 9);
        Check.same("it is kept in memory", file.pageBlock(1), 3);
    }

    private static void free() {
        ShadowFile file = new ShadowFile();
        Help.commit(file, "0=1,1=1");
        Help.commit(file, "1=2");
        Check.promise(28);
        Check.same("freeCount", file.freeCount(), 27);
        Check.promise(29);
        int[] due = {4, 5, 7, 8, 9};
        for (int index = 0; index < due.length; index++) {
            Check.same("freeBlock " + index, file.freeBlock(index), due[index]);
        }
        Check.same("the last one", file.freeBlock(26), 31);
        Check.fails("freeBlock 27", file, Check.INDEX, () -> file.freeBlock(27));
        Check.fails("freeBlock -1", file, Check.INDEX, () -> file.freeBlock(-1));
        file.pin();
        Help.commit(file, "0=2,1=3");
        Check.promise(28);
        Check.same("freeCount with a pin", file.freeCount(), 24);
        Check.promise(29);
        Check.same("freeBlock with a pin", file.freeBlock(0), 8);
        file.unpin(0);
        Check.same("freeBlock without the pin", file.freeBlock(0), 2);
    }

    /** Commit 2 is in the root block 0, the table block 6, and the pages 1 and 2 in 2 and 4. */
    private static ShadowFile twoPages() {
        ShadowFile file = new ShadowFile();
        Help.commit(file, "1=1,2=2");
        Help.commit(file, "1=3,9=4");
        return file;
    }

    private static void wrong(int due, int block, int cell, int content) {
        ShadowFile file = twoPages();
        Help.change(file, block, cell, content);
        Check.same("wrongBlock with " + content + " in cell " + cell + " of block " + block,
                file.wrongBlock(), due);
    }

    private static void wrongBlock() {
        Check.promise(30);
        Check.same("wrongBlock", twoPages().wrongBlock(), -1);
        int[] used = {0, 2, 4, 6};
        for (int block : used) {
            for (int cell = 0; cell < 13; cell++) {
                ShadowFile file = twoPages();
                file.damage(block, cell, file.cell(block, cell) + 1);
                Check.same("cell " + cell + " of block " + block, file.wrongBlock(), block);
            }
        }
        for (int block = 0; block < 32; block++) {
            ShadowFile file = twoPages();
            file.damage(block, 5, 77);
            boolean isUsed = block == 0 || block == 2 || block == 4 || block == 6;
            Check.same("block " + block, file.wrongBlock(), isUsed ? block : -1);
        }
        wrong(0, 0, 0, 2);
        wrong(0, 0, 1, 3);
        wrong(0, 0, 2, 5);
        wrong(-1, 0, 3, 5);
        wrong(-1, 0, 11, 5);
        wrong(6, 6, 0, 3);
        wrong(-1, 6, 1, 7);
        wrong(-1, 6, 2, 7);
        wrong(-1, 6, 3, 7);
        wrong(6, 6, 4, 7);
        wrong(6, 6, 5, 3);
        wrong(6, 6, 11, 0);
        wrong(2, 2, 0, 2);
        wrong(-1, 2, 1, 7);
        wrong(2, 2, 2, 2);
        wrong(2, 2, 3, 1);
        wrong(2, 2, 3, 7);
        wrong(-1, 2, 3, 3 + 256);
        wrong(2, 2, 4, 0);
        wrong(2, 2, 5, 0);
        wrong(-1, 2, 6, 9);
        wrong(-1, 2, 11, 9);
        wrong(4, 4, 4, 9);
        wrong(6, 6, 6, 5);
        for (int page = 0; page < 8; page++) {
            wrongPage(page);
        }
        ShadowFile file = twoPages();
        file.begin();
        file.put(0, 1, 7);
        Check.same("changes do not matter", file.wrongBlock(), -1);
        file.format();
        file.damage(1, 1, 1);
        Check.same("the root block of a formatted file is 0", file.wrongBlock(), -1);
        file.damage(0, 1, 1);
        Check.same("the root block of a formatted file is 0", file.wrongBlock(), 0);
    }

    /** The page has all its records; each of them may differ, and so may each bit. */
    private static void wrongPage(int page) {
        for (int bit = 0; bit < 8; bit++) {
            ShadowFile file = new ShadowFile();
            file.begin();
            for (int key = page; key < 64; key += 8) {
                file.put(0, key, key);
            }
            file.ready(0);
            file.commit(-1);
            int block = file.pageBlock(page);
            Check.same("wrongBlock", file.wrongBlock(), -1);
            Help.change(file, block, 4 + bit, -1);
            Check.same("a value of page " + page, file.wrongBlock(), block);
            Help.change(file, block, 4 + bit, page + 8 * bit);
            Check.same("wrongBlock", file.wrongBlock(), -1);
            Help.change(file, block, 3, 255 - (1 << bit));
            Check.same("a bit of page " + page, file.wrongBlock(), block);
        }
    }

    private static void wrongBlockIsTheLowest() {
        Check.promise(30);
        ShadowFile file = twoPages();
        file.damage(6, 7, 1);
        Check.same("the table", file.wrongBlock(), 6);
        file.damage(4, 7, 1);
        Check.same("page 2", file.wrongBlock(), 4);
        file.damage(2, 7, 1);
        Check.same("page 1", file.wrongBlock(), 2);
        file.damage(0, 7, 1);
        Check.same("the root", file.wrongBlock(), 0);
    }

    private static void closedFile() {
        ShadowFile file = twoPages();
        Help.makeReady(file, "1=1");
        file.commit(0);
        Check.promise(22);
        Check.fails("commitNumber", file, Check.STATE, file::commitNumber);
        Check.promise(23);
        Check.fails("size", file, Check.STATE, file::size);
        Check.promise(24);
        Check.fails("value", file, Check.STATE, () -> file.value(1));
        Check.fails("value of 64", file, Check.STATE, () -> file.value(64));
        Check.promise(25);
        Check.fails("keyAt", file, Check.STATE, () -> file.keyAt(0));
        Check.fails("keyAt -1", file, Check.STATE, () -> file.keyAt(-1));
        Check.promise(26);
        Check.fails("sum", file, Check.STATE, () -> file.sum(0, 63));
        Check.fails("sum of 2 to 1", file, Check.STATE, () -> file.sum(2, 1));
        Check.promise(27);
        Check.fails("pageBlock", file, Check.STATE, () -> file.pageBlock(0));
        Check.fails("pageBlock 8", file, Check.STATE, () -> file.pageBlock(8));
        Check.promise(28);
        Check.fails("freeCount", file, Check.STATE, file::freeCount);
        Check.promise(29);
        Check.fails("freeBlock", file, Check.STATE, () -> file.freeBlock(0));
        Check.fails("freeBlock 99", file, Check.STATE, () -> file.freeBlock(99));
        Check.promise(30);
        Check.fails("wrongBlock", file, Check.STATE, file::wrongBlock);
    }
}
