import java.io.IOException;

/** Each sentence of the promises 40 to 46, by a test of its own. */
public final class DiskSentencesTest {
    private static final String NO_SUCH_CELL =
            "Throws IndexOutOfBoundsException if there is no such block or cell";
    private static final String NO_SUCH_BLOCK =
            "Throws IndexOutOfBoundsException if there is no such block";

    private interface CellCall {
        Object of(ShadowFile file, int block, int cell);
    }

    private DiskSentencesTest() {
    }

    public static void main(String[] args) throws IOException {
        cell();
        damage();
        checksum();
        isValid();
        salvageScans();
        salvageTakesBlocks();
        salvageTakesBits();
        salvageTakesTheGreatest();
        salvaged();
        adopt();
        Check.endOfSentences("DiskSentencesTest", 40, 46);
    }

    private static void noSuchCell(int promise, CellCall call) {
        Check.sentence(promise, NO_SUCH_CELL);
        ShadowFile file = Help.with("1=1");
        for (int block : Help.outside(0, 31)) {
            Check.fails("block " + block, file, Check.INDEX, () -> call.of(file, block, 0));
            Check.fails("block " + block, file, Check.INDEX, () -> call.of(file, block, 13));
        }
        for (int cell : Help.outside(0, 12)) {
            Check.fails("cell " + cell, file, Check.INDEX, () -> call.of(file, 0, cell));
            Check.fails("cell " + cell, file, Check.INDEX, () -> call.of(file, 31, cell));
        }
    }

    private static void cell() {
        Check.sentence(40, "Returns a cell of a block.");
        ShadowFile file = Help.with("1=7");
        Check.same("of a page", file.cell(3, 4), 7);
        Check.same("of a table", file.cell(4, 5), 3);
        Check.same("of a closed file", Help.closed().cell(3, 4), 1);

        Check.sentence(40, "Returns what the cell holds.");
        Check.same("the first cell", file.cell(0, 0), 1);
        Check.same("the last cell", file.cell(31, 12), 0);
        file.damage(31, 12, -5);
        Check.same("another content", file.cell(31, 12), -5);

        noSuchCell(40, ShadowFile::cell);
    }

    private static void damage() {
        Check.sentence(41, "Changes a cell of a block on the disk, without changing its checksum"
                + " otherwise.");
        ShadowFile file = Help.with("1=1");
        int sum = file.cell(3, 12);
        int before = file.damage(3, 4, 99);
        Check.same("the cell", file.cell(3, 4), 99);
        Check.same("the checksum", file.cell(3, 12), sum);
        Check.no("isValid", file.isValid(3));
        file.damage(3, 12, 99);
        Check.same("cell 12 itself", file.cell(3, 12), 99);
        ShadowFile closed = Help.closed();
        closed.damage(0, 0, 5);
        Check.same("a closed file", closed.cell(0, 0), 5);

        Check.sentence(41, "What is kept in memory does not change.");
        file.pin();
        for (int block = 0; block < 32; block++) {
            for (int cell = 0; cell < 13; cell++) {
                file.damage(block, cell, 5);
            }
        }
        Check.same("the commit number", file.commitNumber(), 1);
        Check.text("the records", Help.records(file), "1=1");
        Check.same("the page table", file.pageBlock(1), 3);
        Check.same("the pinned version", file.pinnedValue(0, 1), 1);
        Check.same("the free blocks", file.freeCount(), 28);
        Check.yes("isOpen", file.isOpen());

        Check.sentence(41, "Returns the previous content.");
        Check.same("of a page", before, 1);
        Check.same("the same content", file.damage(3, 4, 5), 5);
        Check.same("the first cell", file.damage(0, 0, Integer.MIN_VALUE), 5);
        Check.same("the lowest int", file.damage(0, 0, Integer.MAX_VALUE), Integer.MIN_VALUE);
        Check.same("the greatest int", file.damage(0, 0, 0), Integer.MAX_VALUE);
        Check.same("the last cell", file.damage(31, 12, 0), 5);

        noSuchCell(41, (other, block, cell) -> other.damage(block, cell, 1));
    }

    private static void checksum() {
        Check.sentence(42, "Returns the checksum of a block as it is computed from its cells.");
        ShadowFile file = new ShadowFile();
        Check.same("block 0", file.checksum(0), -956828114);
        Check.same("block 2", file.checksum(2), 613545425);
        file.damage(2, 12, 5);
        Check.same("whatever cell 12 holds", file.checksum(2), 613545425);
        file.damage(2, 11, 0);
        Check.same("the last cell", file.checksum(2), 613545426);
        file.damage(2, 0, 3);
        int power = 1;
        for (int cell = 0; cell < 11; cell++) {
            power *= 31;
        }
        Check.same("the first cell", file.checksum(2), 613545426 + power);

        Check.sentence(42, "Returns the checksum.");
        Check.same("block 31", file.checksum(31) - file.checksum(30), 31 * power);
        ShadowFile closed = Help.closed();
        Check.same("a closed file", closed.checksum(0), -956828114);

        Check.sentence(42, NO_SUCH_BLOCK);
        for (int block : Help.outside(0, 31)) {
            Check.fails("block " + block, file, Check.INDEX, () -> file.checksum(block));
        }
    }

    private static void isValid() {
        Check.sentence(43, "Returns whether a block is valid.");
        ShadowFile file = Help.with("1=1");
        for (int block = 0; block < 32; block++) {
            Check.text("block " + block, "" + file.isValid(block), "" + (block < 5));
        }
        Check.yes("a closed file", Help.closed().isValid(0));

        Check.sentence(43, "Returns whether it is valid.");
        for (int cell = 0; cell < 13; cell++) {
            int before = file.damage(4, cell, 7777);
            Check.no("another cell " + cell, file.isValid(4));
            file.damage(4, cell, before);
            Check.yes("the old cell " + cell, file.isValid(4));
        }
        Help.seal(file, 31);
        Check.yes("block 31 with its checksum", file.isValid(31));

        Check.sentence(43, NO_SUCH_BLOCK);
        for (int block : Help.outside(0, 31)) {
            Check.fails("block " + block, file, Check.INDEX, () -> file.isValid(block));
        }
    }

    /** Makes a block a valid page with the record of its lowest key. */
    private static void page(ShadowFile file, int block, int number, int page, int value) {
        int[] cells = {3, number, page, 1, value};
        for (int cell = 0; cell < 12; cell++) {
            file.damage(block, cell, cell < cells.length ? cells[cell] : 0);
        }
        Help.seal(file, block);
    }

    private static void salvageScans() {
        Check.sentence(44, "Scans the blocks 2 to 31 of the disk for records, whether the file is"
                + " open or closed, in place of what was salvaged before.");
        ShadowFile file = new ShadowFile();
        page(file, 0, 1, 0, 10);
        page(file, 1, 1, 1, 11);
        Check.same("not the blocks 0 and 1", file.salvage(), 0);
        page(file, 2, 1, 2, 12);
        page(file, 31, 1, 3, 13);
        Check.same("the blocks 2 and 31", file.salvage(), 2);
        Check.text("salvaged", Help.salvaged(file), "2 12 1 2\n3 13 1 31\n");
        Check.failsOnly("reopen", Check.STATE, file::reopen);
        file.damage(31, 12, 0);
        Check.text("before the next scan", Help.salvaged(file), "2 12 1 2\n3 13 1 31\n");
        Check.same("a closed file", file.salvage(), 1);
        Check.text("in place of the records before", Help.salvaged(file), "2 12 1 2\n");
        file.damage(2, 12, 0);
        Check.same("nothing", file.salvage(), 0);
        Check.text("nothing", Help.salvaged(file), "");

        Check.sentence(44, "Returns the number of salvaged records.");
        Check.same("of a new file", new ShadowFile().salvage(), 0);
        Check.same("of a full file", Help.full().salvage(), 64);
        ShadowFile older = Help.with("1=1,9=2");
        Help.commit(older, "1=3,-9");
        Check.same("an older record", older.salvage(), 2);
    }

    private static void salvageTakesBlocks() {
        Check.sentence(44, "A block takes part if it is valid, its cell 0 is 3, and its cell 2 is"
                + " from 0 to 7.");
        ShadowFile file = new ShadowFile();
        page(file, 9, 5, 4, 7);
        Check.same("a page", file.salvage(), 1);
        for (int cell = 0; cell < 13; cell++) {
            int before = file.damage(9, cell, 7777);
            Check.same("it is not valid", file.salvage(), 0);
            file.damage(9, cell, before);
        }
        int[] forms = {0, 1, 2, 4, -3};
        for (int form : forms) {
            Help.change(file, 9, 0, form);
            Check.same("cell 0 is " + form, file.salvage(), 0);
        }
        for (int number : Help.outside(0, 7)) {
            page(file, 9, 5, number, 7);
            Check.same("cell 2 is " + number, file.salvage(), 0);
        }
        for (int number = 0; number < 8; number++) {
            page(file, 9, 5, number, 7);
            Check.same("cell 2 is " + number, file.salvage(), 1);
            Check.same("its key", file.salvaged(0, 0), number);
        }
        int[] numbers = {-1, 0, 1000000, Integer.MIN_VALUE, Integer.MAX_VALUE};
        for (int number : numbers) {
            page(file, 9, number, 4, 7);
            Check.same("any commit number", file.salvage(), 1);
            Check.same("it is told", file.salvaged(0, 2), number);
        }
    }

    private static void salvageTakesBits() {
        Check.sentence(44, "It gives a record for each bit 0 to 7 of cell 3 that is 1, as described"
                + " for pages.");
        for (int bit = 0; bit < 32; bit++) {
            ShadowFile file = new ShadowFile();
            page(file, 9, 5, 7, 70);
            for (int i = 0; i < 8; i++) {
                file.damage(9, 4 + i, 70 + i);
            }
            Help.change(file, 9, 3, 1 << bit);
            file.salvage();
            Check.text("bit " + bit, Help.salvaged(file),
                    bit < 8 ? 7 + 8 * bit + " " + (70 + bit) + " 5 9\n" : "");
        }
        ShadowFile none = new ShadowFile();
        page(none, 9, 5, 7, 70);
        Help.change(none, 9, 3, 0);
        Check.same("no bit", none.salvage(), 0);
        Help.change(none, 9, 3, -1);
        Check.same("all bits", none.salvage(), 8);
    }

    private static void greatest(String due, int... numbers) {
        ShadowFile file = new ShadowFile();
        for (int i = 0; i < numbers.length; i++) {
            page(file, 10 + i, numbers[i], 0, 100 + i);
        }
        Check.same("salvage", file.salvage(), 1);
        Check.text("salvaged", Help.salvaged(file), due + "\n");
    }

    private static void salvageTakesTheGreatest() {
        Check.sentence(44, "For each key, the record of the block with the greatest commit number"
                + " is salvaged, and of several such blocks that of the block with the lowest"
                + " number.");
        greatest("0 100 3 10", 3, 2, 1);
        greatest("0 101 3 11", 2, 3, 1);
        greatest("0 102 3 12", 1, 2, 3);
        greatest("0 100 3 10", 3, 3, 3);
        greatest("0 101 3 11", 2, 3, 3);
        greatest("0 101 -1 11", -2, -1, -3);
        greatest("0 101 2147483647 11", Integer.MIN_VALUE, Integer.MAX_VALUE, 0);
        greatest("0 100 -2147483648 10", Integer.MIN_VALUE, Integer.MIN_VALUE);
        ShadowFile each = new ShadowFile();
        page(each, 10, 1, 0, 100);
        Help.change(each, 10, 3, 3);
        Help.change(each, 10, 5, 108);
        page(each, 11, 2, 0, 200);
        each.salvage();
        Check.text("for each key", Help.salvaged(each), "0 200 2 11\n8 108 1 10\n");
    }

    private static void salvaged() {
        Check.sentence(45, "Returns a property of a salvaged record.");
        ShadowFile file = Help.with("63=-1,0=5");
        Help.commit(file, "0=6");
        file.salvage();
        Check.same("a property", file.salvaged(0, 1), 6);
        file.format();
        Check.same("behind format", file.salvaged(0, 1), 6);
        Help.makeReady(file, "1=1");
        file.commit(0);
        Check.same("of a closed file", file.salvaged(0, 1), 6);

        Check.sentence(45, "what: 0 for the key, 1 for the value, 2 for the commit number of the"
                + " block, 3 for the number of the block");
        Check.same("the key", file.salvaged(1, 0), 63);
        Check.same("the value", file.salvaged(1, 1), -1);
        Check.same("the commit number", file.salvaged(1, 2), 1);
        Check.same("the block", file.salvaged(1, 3), 4);

        Check.sentence(45, "index: the index of the record in ascending order of the keys, from"
                + " 0");
        Check.same("index 0", file.salvaged(0, 0), 0);
        Check.same("index 1", file.salvaged(1, 0), 63);

        Check.sentence(45, "Returns the property.");
        ShadowFile full = Help.full();
        full.salvage();
        for (int key = 0; key < 64; key++) {
            Check.same("a key", full.salvaged(key, 0), key);
            Check.same("a value", full.salvaged(key, 1), 100 * key - 3000);
            Check.same("a commit number", full.salvaged(key, 2), 1);
            Check.same("a block", full.salvaged(key, 3), 3 + key % 8);
        }

        Check.sentence(45, "Throws IndexOutOfBoundsException if there is no such index");
        for (int index : Help.outside(0, 1)) {
            Check.fails("index " + index, file, Check.INDEX, () -> file.salvaged(index, 0));
        }
        for (int index : Help.outside(0, 63)) {
            Check.fails("index " + index, full, Check.INDEX, () -> full.salvaged(index, 0));
        }
        ShadowFile none = Help.with("1=1");
        Check.fails("before salvage", none, Check.INDEX, () -> none.salvaged(0, 0));

        Check.sentence(45, "Throws IllegalArgumentException if what is out of range");
        for (int what : Help.outside(0, 3)) {
            Check.fails("what " + what, file, Check.ARGUMENT, () -> file.salvaged(0, what));
        }
    }

    private static void adopt() {
        Check.sentence(46, "Puts all salvaged records into an active slot, as changes to their"
                + " values.");
        ShadowFile file = Help.with("1=1,2=2,63=-9999");
        file.salvage();
        file.format();
        file.begin();
        file.begin();
        file.put(0, 1, 9);
        file.put(0, 3, 9);
        Help.feed(file, "-2");
        file.readChanges(0);
        int records = file.adopt(0);
        file.writeChanges(0);
        Check.text("the changes", Help.output(file), "1=1,2=2,3=9,63=-9999");
        Check.same("another slot", file.changes(1), 0);
        Check.same("the present version", file.size(), 0);
        Check.text("what was salvaged stays", Help.salvaged(file), "1 1 1 3\n2 2 1 4\n"
                + "63 -9999 1 5\n");
        file.ready(0);
        file.commit(-1);
        Check.text("the records", Help.records(file), "1=1,2=2,3=9,63=-9999");

        Check.sentence(46, "Returns the number of records.");
        Check.same("of a few records", records, 3);
        Check.same("again", file.adopt(1), 3);
        ShadowFile none = new ShadowFile();
        none.begin();
        Check.same("nothing was salvaged", none.adopt(0), 0);
        Check.same("no changes", none.changes(0), 0);
        ShadowFile full = Help.full();
        full.salvage();
        full.begin();
        Check.same("a full file", full.adopt(0), 64);
        Check.same("its changes", full.changes(0), 64);

        Check.sentence(46, "Throws IndexOutOfBoundsException if there is no such slot");
        for (int slot : Help.outside(0, 2)) {
            Check.fails("slot " + slot, full, Check.INDEX, () -> full.adopt(slot));
            Check.fails("slot " + slot, none, Check.INDEX, () -> none.adopt(slot));
        }

        Check.sentence(46, "Throws IllegalStateException if the slot is not active");
        Check.fails("an idle slot", full, Check.STATE, () -> full.adopt(1));
        full.ready(0);
        Check.fails("a ready slot", full, Check.STATE, () -> full.adopt(0));
        full.commit(0);
        Check.fails("a closed file", full, Check.STATE, () -> full.adopt(0));
    }
}
