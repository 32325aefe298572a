/** Promises 40 to 46: the disk and salvage. */
public final class DiskAndSalvageTest {
    private DiskAndSalvageTest() {
    }

    public static void main(String[] args) {
        cell();
        damage();
        checksum();
        isValid();
        closedFile();
        salvage();
        salvageTakesTheGreatestCommit();
        salvageDemands();
        salvageReplaces();
        salvaged();
        adopt();
        adoptAnyInt();
        Check.end("DiskAndSalvageTest");
    }

    private static void cell() {
        Check.promise(40);
        ShadowFile file = new ShadowFile();
        Check.same("cell", file.cell(0, 2), 2);
        Check.same("cell", file.cell(2, 11), -1);
        Check.same("cell", file.cell(31, 12), 0);
        int[][] wrong = {{-1, 0}, {32, 0}, {0, -1}, {0, 13}, {Integer.MIN_VALUE, 0}};
        for (int[] place : wrong) {
            Check.fails("cell", file, Check.INDEX, () -> file.cell(place[0], place[1]));
            Check.promise(41);
            Check.fails("damage", file, Check.INDEX, () -> file.damage(place[0], place[1], 5));
            Check.promise(40);
        }
    }

    private static void damage() {
        Check.promise(41);
        ShadowFile file = new ShadowFile();
        Help.commit(file, "1=1");
        Check.same("damage", file.damage(31, 12, Integer.MIN_VALUE), 0);
        Check.same("damage", file.damage(31, 12, 5), Integer.MIN_VALUE);
        Check.same("damage with the same", file.damage(31, 12, 5), 5);
        Check.same("cell", file.cell(31, 12), 5);
        int sum = file.cell(3, 12);
        Check.same("damage of a page", file.damage(3, 4, 99), 1);
        Check.same("its checksum cell stays", file.cell(3, 12), sum);
        Check.same("what is kept in memory stays", file.value(1), 1);
        file.damage(0, 0, 0);
        file.damage(1, 1, 77);
        Check.same("the commit number stays", file.commitNumber(), 1);
    }

    private static void checksum() {
        Check.promise(42);
        ShadowFile file = new ShadowFile();
        int due = 5 + 17;
        for (int cell = 0; cell < 12; cell++) {
            file.damage(5, cell, 1000003 * (cell - 4));
            due = 31 * due + 1000003 * (cell - 4);
        }
        Check.same("checksum", file.checksum(5), due);
        file.damage(5, 12, 123);
        Check.same("cell 12 does not count", file.checksum(5), due);
        file.damage(5, 11, 1000003 * 7 + 1);
        Check.same("cell 11 counts", file.checksum(5), due + 1);
        Check.same("the table of a new file", file.checksum(2), 613545425);
        Check.fails("block -1", file, Check.INDEX, () -> file.checksum(-1));
        Check.fails("block 32", file, Check.INDEX, () -> file.checksum(32));
    }

    private static void isValid() {
        Check.promise(43);
        ShadowFile file = new ShadowFile();
        Check.yes("block 0", file.isValid(0));
        Check.no("block 1", file.isValid(1));
        Check.yes("block 2", file.isValid(2));
        Check.no("block 31", file.isValid(31));
        Help.seal(file, 31);
        Check.yes("block 31", file.isValid(31));
        file.damage(0, 12, file.cell(0, 12) + 1);
        Check.no("block 0", file.isValid(0));
        Check.fails("block -1", file, Check.INDEX, () -> file.isValid(-1));
        Check.fails("block 32", file, Check.INDEX, () -> file.isValid(32));
    }

    private static void closedFile() {
        ShadowFile file = new ShadowFile();
        Help.makeReady(file, "1=1");
        file.commit(1);
        Check.promise(40);
        Check.same("cell", file.cell(3, 0), 3);
        Check.promise(41);
        Check.same("damage", file.damage(9, 9, 9), 0);
        Check.promise(42);
        Check.same("checksum", file.checksum(3), file.cell(3, 12));
        Check.promise(43);
        Check.yes("isValid", file.isValid(3));
        Check.promise(44);
        Check.same("salvage", file.salvage(), 1);
        Check.text("salvaged", Help.salvaged(file), "1 1 1 3\n");
        Check.promise(46);
        Check.fails("adopt", file, Check.STATE, () -> file.adopt(0));
    }

    private static void salvage() {
        Check.promise(44);
        ShadowFile file = new ShadowFile();
        Check.same("salvage of a new file", file.salvage(), 0);
        Help.commit(file, "0=1,8=2,63=3");
        Help.commit(file, "0=4,-8");
        String before = Help.disk(file);
        Check.same("salvage", file.salvage(), 3);
        Check.text("salvaged", Help.salvaged(file), "0 4 2 2\n8 2 1 3\n63 3 1 4\n");
        Check.text("the disk stays", Help.disk(file), before);
        Check.same("the present version stays", file.size(), 2);
    }

    private static void page(ShadowFile file, int block, int number, int page, int value) {
        file.damage(block, 0, 3);
        file.damage(block, 1, number);
        file.damage(block, 2, page);
        file.damage(block, 3, 1);
        file.damage(block, 4, value);
        Help.seal(file, block);
    }

    private static void salvageTakesTheGreatestCommit() {
        Check.promise(44);
        ShadowFile file = new ShadowFile();
        page(file, 20, 5, 0, 1);
        page(file, 19, 4, 0, 2);
        page(file, 21, 5, 0, 3);
        page(file, 22, -1, 0, 4);
        Check.same("salvage", file.salvage(), 1);
        Check.text("the greatest, then the lowest", Help.salvaged(file), "0 1 5 20\n");
        page(file, 31, Integer.MAX_VALUE, 0, 5);
        page(file, 2, 6, 0, 6);
        file.salvage();
        Check.text("any commit number", Help.salvaged(file), "0 5 2147483647 31\n");
        page(file, 31, Integer.MIN_VALUE, 0, 5);
        file.salvage();
        Check.text("any commit number", Help.salvaged(file), "0 6 6 2\n");
        ShadowFile low = new ShadowFile();
        page(low, 9, Integer.MIN_VALUE, 7, -8);
        page(low, 8, -5, 7, -9);
        page(low, 7, -6, 7, -7);
        low.salvage();
        Check.text("negative commit numbers", Help.salvaged(low), "7 -9 -5 8\n");
        Help.change(low, 8, 3, 0);
        low.salvage();
        Check.text("a page without records", Help.salvaged(low), "7 -7 -6 7\n");
    }

    private static void salvageDemands() {
        Check.promise(44);
        ShadowFile file = new ShadowFile();
        page(file, 9, 1, 3, 30);
        Check.same("salvage", file.salvage(), 1);
        file.damage(9, 12, 0);
        Check.same("a block that is not valid", file.salvage(), 0);
        Help.change(file, 9, 0, 2);
        Check.same("a block that is no page", file.salvage(), 0);
        int[] pages = {-1, 8, Integer.MIN_VALUE, Integer.MAX_VALUE};
        for (int page : pages) {
            page(file, 9, 1, page, 30);
            Check.same("page " + page, file.salvage(), 0);
        }
        page(file, 9, 1, 7, 30);
        Help.change(file, 9, 3, 0x181);
        Check.same("the bits 0 to 7", file.salvage(), 2);
        Check.text("salvaged", Help.salvaged(file), "7 30 1 9\n63 0 1 9\n");
        Help.change(file, 9, 3, -1);
        Check.same("all bits", file.salvage(), 8);
        Help.change(file, 9, 3, 0);
        page(file, 0, 1, 3, 30);
        page(file, 1, 1, 3, 30);
        Check.same("not the blocks 0 and 1", file.salvage(), 0);
        page(file, 31, 1, 3, 31);
        page(file, 2, 1, 4, 32);
        Check.same("the blocks 2 and 31", file.salvage(), 2);
    }

    private static void salvageReplaces() {
        Check.promise(44);
        ShadowFile file = new ShadowFile();
        Help.commit(file, "1=1,2=2");
        file.salvage();
        file.damage(3, 0, 0);
        Check.text("it stays until the next salvage", Help.salvaged(file), "1 1 1 3\n2 2 1 4\n");
        Check.same("salvage", file.salvage(), 1);
        Check.text("in place of what was salvaged", Help.salvaged(file), "2 2 1 4\n");
        file.damage(4, 0, 0);
        Check.same("salvage", file.salvage(), 0);
        Check.text("nothing", Help.salvaged(file), "");
    }

    private static void salvaged() {
        Check.promise(45);
        ShadowFile file = new ShadowFile();
        Help.commit(file, "1=1,2=2");
        Check.fails("nothing was salvaged", file, Check.INDEX, () -> file.salvaged(0, 0));
        Check.fails("the index comes first", file, Check.INDEX, () -> file.salvaged(0, 4));
        file.salvage();
        Check.same("the key", file.salvaged(1, 0), 2);
        Check.same("the value", file.salvaged(1, 1), 2);
        Check.same("the commit number", file.salvaged(1, 2), 1);
        Check.same("the block", file.salvaged(1, 3), 4);
        Check.fails("index 2", file, Check.INDEX, () -> file.salvaged(2, 0));
        Check.fails("index -1", file, Check.INDEX, () -> file.salvaged(-1, 0));
        Check.fails("what 4", file, Check.ARGUMENT, () -> file.salvaged(0, 4));
        Check.fails("what -1", file, Check.ARGUMENT, () -> file.salvaged(0, -1));
    }

    private static void adopt() {
        Check.promise(46);
        ShadowFile file = new ShadowFile();
        Help.commit(file, "1=1,2=2");
        file.salvage();
        file.format();
        file.begin();
        file.put(0, 1, 9);
        file.put(0, 3, 9);
        Check.same("adopt", file.adopt(0), 2);
        Check.same("changes", file.changes(0), 3);
        file.writeChanges(0);
        Check.text("changes", Help.output(file), "1=1,2=2,3=9");
        Check.fails("slot -1", file, Check.INDEX, () -> file.adopt(-1));
        Check.fails("slot 3", file, Check.INDEX, () -> file.adopt(3));
        Check.fails("an idle slot", file, Check.STATE, () -> file.adopt(1));
        Check.text("what was salvaged stays", Help.salvaged(file), "1 1 1 3\n2 2 1 4\n");
        file.remove(0, 2);
        Check.same("adopt again", file.adopt(0), 2);
        Check.same("over a removal", file.get(0, 2), 2);
        file.ready(0);
        Check.fails("a ready slot", file, Check.STATE, () -> file.adopt(0));
        file.commit(-1);
        Check.text("records", Help.records(file), "1=1,2=2,3=9");
        file.damage(2, 0, 0);
        ShadowFile empty = new ShadowFile();
        empty.begin();
        Check.same("nothing was salvaged", empty.adopt(0), 0);
    }

    private static void adoptAnyInt() {
        Check.promise(46);
        ShadowFile file = new ShadowFile();
        page(file, 9, 1, 3, Integer.MIN_VALUE);
        file.salvage();
        file.begin();
        Check.same("adopt", file.adopt(0), 1);
        Check.same("get", file.get(0, 3), Integer.MIN_VALUE);
        file.writeChanges(0);
        Check.text("writeChanges", Help.output(file), "3=-2147483648");
        file.ready(0);
        file.commit(-1);
        Check.same("value", file.value(3), Integer.MIN_VALUE);
        Check.same("wrongBlock", file.wrongBlock(), -1);
        file.reopen();
        Check.same("value after reopen", file.value(3), Integer.MIN_VALUE);
    }
}
