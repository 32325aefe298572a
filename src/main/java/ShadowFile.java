import java.util.Arrays;
import java.util.NoSuchElementException;

/**
 * A small key-value file on a simulated disk with shadow paging. Sets of keys and of blocks are
 * kept as the bits of a long, because there are 64 keys and 32 blocks.
 */
public final class ShadowFile {
    private static final int KEYS = 64;
    private static final int GREATEST_VALUE = 9999;
    private static final int PAGES = 8;
    private static final int SLOTS = 3;
    private static final int MARKS = 3;
    private static final int PINS = 2;
    private static final int SET_MEMBERS = 64;
    private static final int NONE = -1;

    private static final int BLOCKS = 32;
    private static final int FIRST_DATA_BLOCK = 2;
    private static final int CELLS = 13;
    private static final int PART_CELLS = 6;
    private static final int GREATEST_COMMIT = 999999;

    private static final int ROOT = 1;
    private static final int TABLE = 2;
    private static final int PAGE = 3;

    private static final int FORM_CELL = 0;
    private static final int NUMBER_CELL = 1;
    private static final int TABLE_BLOCK_CELL = 2;
    private static final int PAGE_CELL = 2;
    private static final int BITS_CELL = 3;
    private static final int FIRST_ENTRY_CELL = 4;
    private static final int CHECKSUM_CELL = 12;

    private static final int IDLE = 0;
    private static final int ACTIVE = 1;
    private static final int READY = 2;

    private static final int LOG_ENTRIES = 8;
    private static final int LOG_NUMBERS = 4;

    private static final int STATISTICS = 8;
    private static final int COMMITS_WHOLE = 0;
    private static final int COMMITS_FAILED = 1;
    private static final int BLOCKS_WHOLE = 2;
    private static final int BLOCKS_IN_PART = 3;
    private static final int REOPENED = 4;
    private static final int NOT_REOPENED = 5;
    private static final int RECORDS_SALVAGED = 6;
    private static final int CELLS_DAMAGED = 7;

    private static final int SALVAGE_NUMBERS = 4;
    private static final int ERROR_BASE = -100;

    private final Disk disk = new Disk();
    private final Version present = new Version();
    private final Version next = new Version();
    private final Changes combined = new Changes();
    private final Power power = new Power();
    private final Slot[] slots = new Slot[SLOTS];
    private final int[] readyOrder = new int[SLOTS];
    private int readyCount = 0;
    private final Version[] pinned = new Version[PINS];
    private final boolean[] pinUsed = new boolean[PINS];
    private final Input input = new Input();
    private final Output output = new Output();
    private final Log log = new Log();
    private final Salvage found = new Salvage();
    private final int[] counts = new int[STATISTICS];
    private boolean open = false;

    public ShadowFile() {
        for (int slot = 0; slot < SLOTS; slot++) {
            slots[slot] = new Slot();
        }
        for (int pin = 0; pin < PINS; pin++) {
            pinned[pin] = new Version();
        }
        makeNewFile();
    }

    public int format() {
        int before = open ? present.number : NONE;
        endSlotsAndPins();
        makeNewFile();
        return before;
    }

    // ---- transactions

    public int begin() throws IllegalStateException {
        requireOpen();
        for (int slot = 0; slot < SLOTS; slot++) {
            if (slots[slot].state == IDLE) {
                slots[slot].reset(ACTIVE);
                return slot;
            }
        }
        throw new IllegalStateException("no slot is idle");
    }

    public boolean put(int slot, int key, int value)
            throws IndexOutOfBoundsException, IllegalArgumentException, IllegalStateException {
        requireSlot(slot);
        requireKey(key);
        if (value < -GREATEST_VALUE || value > GREATEST_VALUE) {
            throw new IllegalArgumentException("the value is out of range");
        }
        requireActive(slot);
        boolean before = isInView(slot, key);
        slots[slot].changes.renew(key, value);
        return before;
    }

    public int remove(int slot, int key)
            throws IndexOutOfBoundsException, IllegalArgumentException, IllegalStateException,
            NoSuchElementException {
        requireSlot(slot);
        requireKey(key);
        requireActive(slot);
        requireInView(slot, key);
        int before = valueInView(slot, key);
        slots[slot].changes.drop(key);
        return before;
    }

    public int get(int slot, int key)
            throws IndexOutOfBoundsException, IllegalArgumentException, IllegalStateException,
            NoSuchElementException {
        requireSlot(slot);
        requireKey(key);
        requireNotIdle(slot);
        requireInView(slot, key);
        return valueInView(slot, key);
    }

    public int changes(int slot) throws IndexOutOfBoundsException {
        requireSlot(slot);
        return slots[slot].changes.count();
    }

    public int slotState(int slot) throws IndexOutOfBoundsException {
        requireSlot(slot);
        return slots[slot].state;
    }

    public int mark(int slot) throws IndexOutOfBoundsException, IllegalStateException {
        requireSlot(slot);
        requireActive(slot);
        if (slots[slot].markCount >= MARKS) {
            throw new IllegalStateException("the slot has all its marks");
        }
        return slots[slot].setMark();
    }

    public int goBack(int slot)
            throws IndexOutOfBoundsException, IllegalStateException, NoSuchElementException {
        requireSlot(slot);
        requireActive(slot);
        if (slots[slot].markCount <= 0) {
            throw new NoSuchElementException("the slot has no marks");
        }
        slots[slot].takeMark();
        return slots[slot].changes.count();
    }

    public int ready(int slot) throws IndexOutOfBoundsException, IllegalStateException {
        requireSlot(slot);
        requireActive(slot);
        slots[slot].state = READY;
        slots[slot].markCount = 0;
        if (readyCount < SLOTS) {
            readyOrder[readyCount] = slot;
            readyCount++;
        }
        return readyCount;
    }

    public int abandon(int slot) throws IndexOutOfBoundsException, IllegalStateException {
        requireSlot(slot);
        requireNotIdle(slot);
        int before = slots[slot].changes.count();
        leaveReadyOrder(slot);
        slots[slot].reset(IDLE);
        return before;
    }

    // ---- text

    public int feed(char character) throws IllegalStateException {
        if (input.length >= Input.LIMIT) {
            throw new IllegalStateException("the input is full");
        }
        input.append(character);
        return input.length;
    }

    public int readChanges(int slot) throws IndexOutOfBoundsException, IllegalStateException {
        // The input is emptied before the checks, since it is lost even if one of them throws.
        int error = input.parse();
        input.length = 0;
        requireSlot(slot);
        requireActive(slot);
        if (error != NONE) {
            return ERROR_BASE - error;
        }
        input.enter(slots[slot].changes);
        return input.entries;
    }

    public int writeChanges(int slot) throws IndexOutOfBoundsException, IllegalStateException {
        requireSlot(slot);
        requireNotIdle(slot);
        Changes changes = slots[slot].changes;
        output.length = 0;
        for (int key = 0; key < KEYS; key++) {
            if (isIn(changes.removed, key)) {
                output.appendRemoval(key);
            } else if (isIn(changes.touched, key)) {
                output.appendRecord(key, changes.values[key]);
            }
        }
        return output.length;
    }

    public int writeRecords() throws IllegalStateException {
        requireOpen();
        output.length = 0;
        for (int key = 0; key < KEYS; key++) {
            if (isIn(present.keys, key)) {
                output.appendRecord(key, present.values[key]);
            }
        }
        return output.length;
    }

    public char outputAt(int index) throws IndexOutOfBoundsException {
        if (index < 0 || index >= output.length) {
            throw new IndexOutOfBoundsException("no such index of the output");
        }
        return output.signs[index];
    }

    // ---- commits

    public int blocksToWrite() {
        if (readyCount == 0) {
            return 0;
        }
        prepareNext();
        return dataBlocksOfNext() + 1;
    }

    public int commit(int blocks)
            throws IllegalArgumentException, IllegalStateException, UnsupportedOperationException {
        if (blocks < -1) {
            throw new IllegalArgumentException("fewer blocks than -1");
        }
        requireOpen();
        if (readyCount == 0) {
            throw new IllegalStateException("no slot is ready");
        }
        if (present.number >= GREATEST_COMMIT) {
            throw new UnsupportedOperationException("the commit numbers are used up");
        }
        prepareNext();
        if (Long.bitCount(freeBlocks()) < dataBlocksOfNext()) {
            throw new UnsupportedOperationException("there are not enough free blocks");
        }
        placeNext();
        writeNext(blocks);
        return endCommit();
    }

    public int reopen() throws IllegalStateException {
        endSlotsAndPins();
        int root = usableRoot();
        if (root == NONE) {
            open = false;
            counts[NOT_REOPENED]++;
            throw new IllegalStateException("no root is usable");
        }
        present.load(disk, root);
        open = true;
        counts[REOPENED]++;
        return present.number;
    }

    public boolean isOpen() {
        return open;
    }

    // ---- the present version

    public int commitNumber() throws IllegalStateException {
        requireOpen();
        return present.number;
    }

    public int size() throws IllegalStateException {
        requireOpen();
        return Long.bitCount(present.keys);
    }

    public int value(int key)
            throws IllegalStateException, IllegalArgumentException, NoSuchElementException {
        requireOpen();
        requireKey(key);
        return recordOf(present, key);
    }

    public int keyAt(int index) throws IllegalStateException, IndexOutOfBoundsException {
        requireOpen();
        requireIndex(index, Long.bitCount(present.keys));
        return memberAt(present.keys, index);
    }

    public int sum(int low, int high) throws IllegalStateException, IllegalArgumentException {
        requireOpen();
        requireKey(low);
        requireKey(high);
        if (low > high) {
            throw new IllegalArgumentException("the lowest key is greater than the highest");
        }
        int total = 0;
        for (int key = low; key <= high; key++) {
            if (isIn(present.keys, key)) {
                total += present.values[key];
            }
        }
        return total;
    }

    public int pageBlock(int page) throws IllegalStateException, IndexOutOfBoundsException {
        requireOpen();
        requireIndex(page, PAGES);
        return present.blocks[page];
    }

    public int freeCount() throws IllegalStateException {
        requireOpen();
        return Long.bitCount(freeBlocks());
    }

    public int freeBlock(int index) throws IllegalStateException, IndexOutOfBoundsException {
        requireOpen();
        long free = freeBlocks();
        requireIndex(index, Long.bitCount(free));
        return memberAt(free, index);
    }

    public int wrongBlock() throws IllegalStateException {
        requireOpen();
        for (int block = 0; block < BLOCKS; block++) {
            if (present.isWrong(disk, block)) {
                return block;
            }
        }
        return NONE;
    }

    // ---- the log

    public int logSize() {
        return log.size;
    }

    public int logged(int index, int what)
            throws IndexOutOfBoundsException, IllegalArgumentException {
        requireIndex(index, log.size);
        requireWhat(what, LOG_NUMBERS);
        return log.rows[index][what];
    }

    public int statistic(int what) throws IllegalArgumentException {
        requireWhat(what, STATISTICS);
        return counts[what];
    }

    // ---- pins

    public int pin() throws IllegalStateException {
        requireOpen();
        for (int pin = 0; pin < PINS; pin++) {
            if (!pinUsed[pin]) {
                pinned[pin].copyFrom(present);
                pinUsed[pin] = true;
                return pin;
            }
        }
        throw new IllegalStateException("no pin is unused");
    }

    public int pinnedValue(int pin, int key)
            throws IndexOutOfBoundsException, IllegalArgumentException, IllegalStateException,
            NoSuchElementException {
        requireIndex(pin, PINS);
        requireKey(key);
        requirePinned(pin);
        return recordOf(pinned[pin], key);
    }

    public int pinnedCommit(int pin) throws IndexOutOfBoundsException, IllegalStateException {
        requireIndex(pin, PINS);
        requirePinned(pin);
        return pinned[pin].number;
    }

    public int unpin(int pin) throws IndexOutOfBoundsException, IllegalStateException {
        requireIndex(pin, PINS);
        requirePinned(pin);
        int before = Long.bitCount(freeBlocks());
        pinUsed[pin] = false;
        return Long.bitCount(freeBlocks()) - before;
    }

    public int differences(int pin) throws IndexOutOfBoundsException, IllegalStateException {
        requireIndex(pin, PINS);
        requirePinned(pin);
        return Long.bitCount(present.differentKeys(pinned[pin]));
    }

    public int differentKey(int pin, int index)
            throws IndexOutOfBoundsException, IllegalStateException, NoSuchElementException {
        requireIndex(pin, PINS);
        requirePinned(pin);
        long keys = present.differentKeys(pinned[pin]);
        if (index < 0 || index >= Long.bitCount(keys)) {
            throw new NoSuchElementException("no such index of a different key");
        }
        return memberAt(keys, index);
    }

    // ---- the disk

    public int cell(int block, int cell) throws IndexOutOfBoundsException {
        requireIndex(block, BLOCKS);
        requireIndex(cell, CELLS);
        return disk.cells[block][cell];
    }

    public int damage(int block, int cell, int content) throws IndexOutOfBoundsException {
        requireIndex(block, BLOCKS);
        requireIndex(cell, CELLS);
        int before = disk.cells[block][cell];
        disk.cells[block][cell] = content;
        if (before != content) {
            counts[CELLS_DAMAGED]++;
        }
        return before;
    }

    public int checksum(int block) throws IndexOutOfBoundsException {
        requireIndex(block, BLOCKS);
        return disk.computeChecksum(block);
    }

    public boolean isValid(int block) throws IndexOutOfBoundsException {
        requireIndex(block, BLOCKS);
        return disk.hasRightChecksum(block);
    }

    // ---- salvage

    public int salvage() {
        found.scan(disk);
        int records = Long.bitCount(found.keys);
        counts[RECORDS_SALVAGED] += records;
        return records;
    }

    public int salvaged(int index, int what)
            throws IndexOutOfBoundsException, IllegalArgumentException {
        requireIndex(index, Long.bitCount(found.keys));
        requireWhat(what, SALVAGE_NUMBERS);
        int key = memberAt(found.keys, index);
        switch (what) {
            case 0:
                return key;
            case 1:
                return found.values[key];
            case 2:
                return found.numbers[key];
            default:
                return found.blocks[key];
        }
    }

    public int adopt(int slot) throws IndexOutOfBoundsException, IllegalStateException {
        requireSlot(slot);
        requireActive(slot);
        for (int key = 0; key < KEYS; key++) {
            if (isIn(found.keys, key)) {
                slots[slot].changes.renew(key, found.values[key]);
            }
        }
        return Long.bitCount(found.keys);
    }

    // ---- what the calls require

    private void requireOpen() throws IllegalStateException {
        if (!open) {
            throw new IllegalStateException("the file is closed");
        }
    }

    private static void requireSlot(int slot) throws IndexOutOfBoundsException {
        requireIndex(slot, SLOTS);
    }

    private static void requireIndex(int index, int size) throws IndexOutOfBoundsException {
        if (index < 0 || index >= size) {
            throw new IndexOutOfBoundsException("no such number or index");
        }
    }

    private static void requireKey(int key) throws IllegalArgumentException {
        if (key < 0 || key >= KEYS) {
            throw new IllegalArgumentException("the key is out of range");
        }
    }

    private static void requireWhat(int what, int size) throws IllegalArgumentException {
        if (what < 0 || what >= size) {
            throw new IllegalArgumentException("what is out of range");
        }
    }

    private void requireActive(int slot) throws IllegalStateException {
        if (slots[slot].state != ACTIVE) {
            throw new IllegalStateException("the slot is not active");
        }
    }

    private void requireNotIdle(int slot) throws IllegalStateException {
        if (slots[slot].state == IDLE) {
            throw new IllegalStateException("the slot is idle");
        }
    }

    private void requireInView(int slot, int key) throws NoSuchElementException {
        if (!isInView(slot, key)) {
            throw new NoSuchElementException("the view has no record with the key");
        }
    }

    private void requirePinned(int pin) throws IllegalStateException {
        if (!pinUsed[pin]) {
            throw new IllegalStateException("the pin is unused");
        }
    }

    // ---- sets of numbers from 0 to 63

    private static boolean isIn(long set, int member) {
        return ((set >>> member) & 1L) != 0L;
    }

    private static long setOf(int member) {
        return 1L << member;
    }

    private static int memberAt(long set, int index) {
        int left = index;
        for (int member = 0; member < SET_MEMBERS; member++) {
            if (isIn(set, member)) {
                if (left == 0) {
                    return member;
                }
                left--;
            }
        }
        return NONE;
    }

    // ---- the file

    private void makeNewFile() {
        disk.wipe();
        present.makeEmpty();
        present.describeTable(disk.draft);
        disk.writeWhole(present.table);
        present.describeRoot(disk.draft);
        disk.writeWhole(present.root);
        open = true;
    }

    private void endSlotsAndPins() {
        for (int slot = 0; slot < SLOTS; slot++) {
            slots[slot].reset(IDLE);
        }
        readyCount = 0;
        for (int pin = 0; pin < PINS; pin++) {
            pinUsed[pin] = false;
        }
    }

    private int usableRoot() {
        boolean first = disk.isUsableRoot(0);
        boolean second = disk.isUsableRoot(1);
        if (first && second) {
            return disk.cells[1][NUMBER_CELL] > disk.cells[0][NUMBER_CELL] ? 1 : 0;
        }
        if (first) {
            return 0;
        }
        return second ? 1 : NONE;
    }

    private static int recordOf(Version version, int key) throws NoSuchElementException {
        if (!isIn(version.keys, key)) {
            throw new NoSuchElementException("the version has no record with the key");
        }
        return version.values[key];
    }

    private long freeBlocks() {
        long free = 0L;
        for (int block = FIRST_DATA_BLOCK; block < BLOCKS; block++) {
            free |= setOf(block);
        }
        free &= ~present.usedBlocks();
        for (int pin = 0; pin < PINS; pin++) {
            if (pinUsed[pin]) {
                free &= ~pinned[pin].usedBlocks();
            }
        }
        return free;
    }

    // ---- slots

    private boolean isInView(int slot, int key) {
        Changes changes = slots[slot].changes;
        if (isIn(changes.touched, key)) {
            return !isIn(changes.removed, key);
        }
        return isIn(present.keys, key);
    }

    private int valueInView(int slot, int key) {
        Changes changes = slots[slot].changes;
        return isIn(changes.touched, key) ? changes.values[key] : present.values[key];
    }

    private void leaveReadyOrder(int slot) {
        int kept = 0;
        for (int place = 0; place < readyCount; place++) {
            if (readyOrder[place] != slot) {
                readyOrder[kept] = readyOrder[place];
                kept++;
            }
        }
        readyCount = kept;
    }

    // ---- the steps of a commit

    private void prepareNext() {
        combined.clear();
        for (int place = 0; place < readyCount; place++) {
            combined.add(slots[readyOrder[place]].changes);
        }
        next.copyFrom(present);
        next.apply(combined);
        next.number = present.number + 1;
        next.root = next.number % 2;
    }

    private boolean isPageToWrite(int page) {
        return combined.touchesPage(page) && next.bitsOf(page) != 0;
    }

    /** Counts the blocks that must be free: those of the pages, and that of the page table. */
    private int dataBlocksOfNext() {
        int blocks = 1;
        for (int page = 0; page < PAGES; page++) {
            if (isPageToWrite(page)) {
                blocks++;
            }
        }
        return blocks;
    }

    private void placeNext() {
        long free = freeBlocks();
        int taken = 0;
        for (int page = 0; page < PAGES; page++) {
            if (isPageToWrite(page)) {
                next.blocks[page] = memberAt(free, taken);
                taken++;
            } else if (combined.touchesPage(page)) {
                next.blocks[page] = NONE;
            }
        }
        next.table = memberAt(free, taken);
    }

    private void writeNext(int limit) {
        power.start(limit);
        for (int page = 0; page < PAGES; page++) {
            if (isPageToWrite(page)) {
                next.describePage(page, disk.draft);
                power.write(disk, next.blocks[page]);
            }
        }
        next.describeTable(disk.draft);
        power.write(disk, next.table);
        next.describeRoot(disk.draft);
        power.write(disk, next.root);
    }

    private int endCommit() {
        boolean failed = power.partBlocks > 0;
        int answer = failed ? NONE : next.number;
        log.append(answer, readyCount, combined.countPages(), power.wholeBlocks);
        counts[BLOCKS_WHOLE] += power.wholeBlocks;
        counts[BLOCKS_IN_PART] += power.partBlocks;
        if (failed) {
            counts[COMMITS_FAILED]++;
            endSlotsAndPins();
            open = false;
        } else {
            counts[COMMITS_WHOLE]++;
            present.copyFrom(next);
            endReadySlots();
        }
        return answer;
    }

    private void endReadySlots() {
        for (int place = 0; place < readyCount; place++) {
            slots[readyOrder[place]].reset(IDLE);
        }
        readyCount = 0;
    }

    /** The simulated disk, and a draft of a block that is about to be written to it. */
    private static final class Disk {
        final int[][] cells = new int[BLOCKS][CELLS];
        final int[] draft = new int[CELLS];

        void wipe() {
            for (int block = 0; block < BLOCKS; block++) {
                Arrays.fill(cells[block], 0);
            }
        }

        void writeWhole(int block) {
            System.arraycopy(draft, 0, cells[block], 0, CHECKSUM_CELL);
            cells[block][CHECKSUM_CELL] = computeChecksum(block);
        }

        void writePart(int block) {
            System.arraycopy(draft, 0, cells[block], 0, PART_CELLS);
        }

        int computeChecksum(int block) {
            int hash = block + 17;
            for (int cell = 0; cell < CHECKSUM_CELL; cell++) {
                hash = 31 * hash + cells[block][cell];
            }
            return hash;
        }

        boolean hasRightChecksum(int block) {
            return cells[block][CHECKSUM_CELL] == computeChecksum(block);
        }

        boolean isValidForm(int block, int form) {
            return hasRightChecksum(block) && cells[block][FORM_CELL] == form;
        }

        boolean isUsableRoot(int block) {
            int number = cells[block][NUMBER_CELL];
            return isValidForm(block, ROOT) && number >= 0 && number <= GREATEST_COMMIT
                    && isUsableTable(cells[block][TABLE_BLOCK_CELL], number);
        }

        boolean isUsableTable(int block, int number) {
            if (!isDataBlock(block) || !isValidForm(block, TABLE)
                    || cells[block][NUMBER_CELL] != number) {
                return false;
            }
            for (int page = 0; page < PAGES; page++) {
                int entry = cells[block][FIRST_ENTRY_CELL + page];
                if (entry != NONE && !isUsablePage(entry, page)) {
                    return false;
                }
            }
            return true;
        }

        boolean isUsablePage(int block, int page) {
            return isDataBlock(block) && isValidForm(block, PAGE)
                    && cells[block][PAGE_CELL] == page;
        }

        static boolean isDataBlock(int block) {
            return block >= FIRST_DATA_BLOCK && block < BLOCKS;
        }
    }

    /** Writes the blocks of one commit, until the power fails. */
    private static final class Power {
        int limit = NONE;
        int wholeBlocks = 0;
        int partBlocks = 0;

        void start(int blocks) {
            limit = blocks;
            wholeBlocks = 0;
            partBlocks = 0;
        }

        void write(Disk disk, int block) {
            if (limit == NONE || wholeBlocks < limit) {
                disk.writeWhole(block);
                wholeBlocks++;
            } else if (partBlocks == 0) {
                disk.writePart(block);
                partBlocks++;
            }
        }
    }

    /** A version in memory: its numbers, its page table, and its records. */
    private static final class Version {
        final int[] blocks = new int[PAGES];
        final int[] values = new int[KEYS];
        long keys = 0L;
        int number = 0;
        int root = 0;
        int table = FIRST_DATA_BLOCK;

        static int keyOf(int page, int bit) {
            return page + PAGES * bit;
        }

        void makeEmpty() {
            Arrays.fill(blocks, NONE);
            keys = 0L;
            number = 0;
            root = 0;
            table = FIRST_DATA_BLOCK;
        }

        void copyFrom(Version other) {
            System.arraycopy(other.blocks, 0, blocks, 0, PAGES);
            System.arraycopy(other.values, 0, values, 0, KEYS);
            keys = other.keys;
            number = other.number;
            root = other.root;
            table = other.table;
        }

        void apply(Changes changes) {
            for (int key = 0; key < KEYS; key++) {
                if (isIn(changes.removed, key)) {
                    keys &= ~setOf(key);
                } else if (isIn(changes.touched, key)) {
                    keys |= setOf(key);
                    values[key] = changes.values[key];
                }
            }
        }

        /** Takes the version of a root that is usable. */
        void load(Disk disk, int rootBlock) {
            root = rootBlock;
            number = disk.cells[rootBlock][NUMBER_CELL];
            table = disk.cells[rootBlock][TABLE_BLOCK_CELL];
            keys = 0L;
            for (int page = 0; page < PAGES; page++) {
                blocks[page] = disk.cells[table][FIRST_ENTRY_CELL + page];
                if (Disk.isDataBlock(blocks[page])) {
                    loadPage(disk.cells[blocks[page]], page);
                }
            }
        }

        void loadPage(int[] cells, int page) {
            for (int bit = 0; bit < PAGES; bit++) {
                if (isIn(cells[BITS_CELL], bit)) {
                    int key = keyOf(page, bit);
                    keys |= setOf(key);
                    values[key] = cells[FIRST_ENTRY_CELL + bit];
                }
            }
        }

        int bitsOf(int page) {
            int bits = 0;
            for (int bit = 0; bit < PAGES; bit++) {
                if (isIn(keys, keyOf(page, bit))) {
                    bits |= 1 << bit;
                }
            }
            return bits;
        }

        long usedBlocks() {
            long used = setOf(table);
            for (int page = 0; page < PAGES; page++) {
                if (blocks[page] != NONE) {
                    used |= setOf(blocks[page]);
                }
            }
            return used;
        }

        long differentKeys(Version other) {
            long different = keys ^ other.keys;
            for (int key = 0; key < KEYS; key++) {
                if (isIn(keys & other.keys, key) && values[key] != other.values[key]) {
                    different |= setOf(key);
                }
            }
            return different;
        }

        void describeRoot(int[] cells) {
            Arrays.fill(cells, 0);
            cells[FORM_CELL] = ROOT;
            cells[NUMBER_CELL] = number;
            cells[TABLE_BLOCK_CELL] = table;
        }

        void describeTable(int[] cells) {
            Arrays.fill(cells, 0);
            cells[FORM_CELL] = TABLE;
            cells[NUMBER_CELL] = number;
            System.arraycopy(blocks, 0, cells, FIRST_ENTRY_CELL, PAGES);
        }

        void describePage(int page, int[] cells) {
            Arrays.fill(cells, 0);
            cells[FORM_CELL] = PAGE;
            cells[NUMBER_CELL] = number;
            cells[PAGE_CELL] = page;
            cells[BITS_CELL] = bitsOf(page);
            for (int bit = 0; bit < PAGES; bit++) {
                int key = keyOf(page, bit);
                if (isIn(keys, key)) {
                    cells[FIRST_ENTRY_CELL + bit] = values[key];
                }
            }
        }

        boolean isWrong(Disk disk, int block) {
            int[] cells = disk.cells[block];
            if (block == root) {
                return !disk.isValidForm(block, ROOT) || !isOurRoot(cells);
            }
            if (block == table) {
                return !disk.isValidForm(block, TABLE) || !isOurTable(cells);
            }
            for (int page = 0; page < PAGES; page++) {
                if (block == blocks[page]) {
                    return !disk.isValidForm(block, PAGE) || !isOurPage(cells, page);
                }
            }
            return false;
        }

        boolean isOurRoot(int[] cells) {
            return cells[NUMBER_CELL] == number && cells[TABLE_BLOCK_CELL] == table;
        }

        boolean isOurTable(int[] cells) {
            for (int page = 0; page < PAGES; page++) {
                if (cells[FIRST_ENTRY_CELL + page] != blocks[page]) {
                    return false;
                }
            }
            return true;
        }

        boolean isOurPage(int[] cells, int page) {
            for (int bit = 0; bit < PAGES; bit++) {
                int key = keyOf(page, bit);
                if (isIn(cells[BITS_CELL], bit) != isIn(keys, key)) {
                    return false;
                }
                if (isIn(keys, key) && cells[FIRST_ENTRY_CELL + bit] != values[key]) {
                    return false;
                }
            }
            return cells[PAGE_CELL] == page;
        }
    }

    /** For some keys, a new value or a removal. */
    private static final class Changes {
        final int[] values = new int[KEYS];
        long touched = 0L;
        long removed = 0L;

        void clear() {
            touched = 0L;
            removed = 0L;
        }

        void renew(int key, int value) {
            touched |= setOf(key);
            removed &= ~setOf(key);
            values[key] = value;
        }

        void drop(int key) {
            touched |= setOf(key);
            removed |= setOf(key);
        }

        void copyFrom(Changes other) {
            System.arraycopy(other.values, 0, values, 0, KEYS);
            touched = other.touched;
            removed = other.removed;
        }

        void add(Changes later) {
            for (int key = 0; key < KEYS; key++) {
                if (isIn(later.removed, key)) {
                    drop(key);
                } else if (isIn(later.touched, key)) {
                    renew(key, later.values[key]);
                }
            }
        }

        int count() {
            return Long.bitCount(touched);
        }

        boolean touchesPage(int page) {
            for (int bit = 0; bit < PAGES; bit++) {
                if (isIn(touched, Version.keyOf(page, bit))) {
                    return true;
                }
            }
            return false;
        }

        int countPages() {
            int pages = 0;
            for (int page = 0; page < PAGES; page++) {
                if (touchesPage(page)) {
                    pages++;
                }
            }
            return pages;
        }
    }

    /** A slot for a transaction. */
    private static final class Slot {
        final Changes changes = new Changes();
        final Changes[] marks = new Changes[MARKS];
        int markCount = 0;
        int state = IDLE;

        Slot() {
            for (int mark = 0; mark < MARKS; mark++) {
                marks[mark] = new Changes();
            }
        }

        void reset(int newState) {
            state = newState;
            markCount = 0;
            changes.clear();
        }

        int setMark() {
            if (markCount < MARKS) {
                marks[markCount].copyFrom(changes);
                markCount++;
            }
            return markCount;
        }

        void takeMark() {
            if (markCount > 0) {
                markCount--;
                changes.copyFrom(marks[markCount]);
            }
        }
    }

    /** The input, and the entries that it was last read as. */
    private static final class Input {
        static final int LIMIT = 60;

        // What has been read of an entry; from VALUE_1 on, each state is one digit more.
        static final int NOTHING = 0;
        static final int KEY_1 = 1;
        static final int KEY_2 = 2;
        static final int EQUALS = 3;
        static final int VALUE_MINUS = 4;
        static final int VALUE_1 = 5;
        static final int VALUE_4 = 8;
        static final int MINUS = 9;
        static final int REMOVED_1 = 10;
        static final int REMOVED_2 = 11;

        final char[] signs = new char[LIMIT];
        int length = 0;
        final int[] keys = new int[LIMIT];
        final int[] keyPlaces = new int[LIMIT];
        final int[] values = new int[LIMIT];
        final boolean[] removals = new boolean[LIMIT];
        int entries = 0;

        void append(char sign) {
            if (length < LIMIT) {
                signs[length] = sign;
                length++;
            }
        }

        /** Reads the signs as entries, and answers the error position, or NONE. */
        int parse() {
            entries = 0;
            int state = NOTHING;
            int factor = 1;
            for (int place = 0; place < length; place++) {
                state = follow(state, signs[place]);
                if (state == NONE) {
                    return place;
                }
                if (state == EQUALS) {
                    factor = 1;
                } else if (state == VALUE_MINUS) {
                    factor = -1;
                } else {
                    takeDigit(state, place, factor);
                }
            }
            return mayEnd(state) ? placeOfGreatKey() : length;
        }

        static boolean mayEnd(int state) {
            return state >= VALUE_1 && state <= VALUE_4
                    || state == REMOVED_1 || state == REMOVED_2;
        }

        static boolean isDigit(char sign) {
            return sign >= '0' && sign <= '9';
        }

        /** Answers the state behind a sign, or NONE if the sign cannot stand there. */
        static int follow(int state, char sign) {
            if (isDigit(sign)) {
                return followDigit(state);
            }
            if (sign == ',' && mayEnd(state)) {
                return NOTHING;
            }
            if (sign == '=' && (state == KEY_1 || state == KEY_2)) {
                return EQUALS;
            }
            if (sign == '-' && state == NOTHING) {
                return MINUS;
            }
            return sign == '-' && state == EQUALS ? VALUE_MINUS : NONE;
        }

        static int followDigit(int state) {
            switch (state) {
                case NOTHING:
                    return KEY_1;
                case EQUALS:
                case VALUE_MINUS:
                    return VALUE_1;
                case KEY_2:
                case VALUE_4:
                case REMOVED_2:
                    return NONE;
                default:
                    return state + 1;
            }
        }

        void takeDigit(int state, int place, int factor) {
            int digit = signs[place] - '0';
            if (entries < LIMIT && (state == KEY_1 || state == REMOVED_1)) {
                keys[entries] = digit;
                keyPlaces[entries] = place;
                values[entries] = 0;
                removals[entries] = state == REMOVED_1;
                entries++;
            } else if (entries > 0 && (state == KEY_2 || state == REMOVED_2)) {
                keys[entries - 1] = 10 * keys[entries - 1] + digit;
            } else if (entries > 0 && state >= VALUE_1 && state <= VALUE_4) {
                values[entries - 1] = 10 * values[entries - 1] + factor * digit;
            }
        }

        int placeOfGreatKey() {
            for (int entry = 0; entry < entries; entry++) {
                if (keys[entry] >= KEYS) {
                    return keyPlaces[entry];
                }
            }
            return NONE;
        }

        /** Enters the entries into changes, if all their keys are in range. */
        void enter(Changes changes) {
            for (int entry = 0; entry < entries; entry++) {
                if (removals[entry]) {
                    changes.drop(keys[entry]);
                } else {
                    changes.renew(keys[entry], values[entry]);
                }
            }
        }
    }

    /** The output. */
    private static final class Output {
        // A comma, two digits, an equals sign, and the eleven signs of the longest int.
        static final int ENTRY_SIGNS = 15;
        static final int DIGITS = 10;

        final char[] signs = new char[KEYS * ENTRY_SIGNS];
        final char[] digits = new char[DIGITS];
        int length = 0;

        void append(char sign) {
            if (length < signs.length) {
                signs[length] = sign;
                length++;
            }
        }

        void appendComma() {
            if (length > 0) {
                append(',');
            }
        }

        void appendNumber(int number) {
            // A long, because the opposite of the lowest int is no int.
            long rest = number;
            if (rest < 0) {
                append('-');
                rest = -rest;
            }
            int count = 0;
            do {
                digits[count] = (char) ('0' + rest % 10);
                rest /= 10;
                count++;
            } while (rest > 0 && count < DIGITS);
            for (int place = count - 1; place >= 0; place--) {
                append(digits[place]);
            }
        }

        void appendRecord(int key, int value) {
            appendComma();
            appendNumber(key);
            append('=');
            appendNumber(value);
        }

        void appendRemoval(int key) {
            appendComma();
            append('-');
            appendNumber(key);
        }
    }

    /** The latest commits, the latest one first. */
    private static final class Log {
        final int[][] rows = new int[LOG_ENTRIES][LOG_NUMBERS];
        int size = 0;

        void append(int number, int slots, int pages, int blocks) {
            for (int row = LOG_ENTRIES - 1; row > 0; row--) {
                System.arraycopy(rows[row - 1], 0, rows[row], 0, LOG_NUMBERS);
            }
            rows[0][0] = number;
            rows[0][1] = slots;
            rows[0][2] = pages;
            rows[0][3] = blocks;
            if (size < LOG_ENTRIES) {
                size++;
            }
        }
    }

    /** The records that the last scan of the disk found. */
    private static final class Salvage {
        final int[] values = new int[KEYS];
        final int[] numbers = new int[KEYS];
        final int[] blocks = new int[KEYS];
        long keys = 0L;

        void scan(Disk disk) {
            keys = 0L;
            for (int block = FIRST_DATA_BLOCK; block < BLOCKS; block++) {
                int page = disk.cells[block][PAGE_CELL];
                if (page >= 0 && page < PAGES && disk.isUsablePage(block, page)) {
                    scanPage(disk.cells[block], block);
                }
            }
        }

        void scanPage(int[] cells, int block) {
            for (int bit = 0; bit < PAGES; bit++) {
                int key = Version.keyOf(cells[PAGE_CELL], bit);
                if (isIn(cells[BITS_CELL], bit) && isBetter(key, cells[NUMBER_CELL])) {
                    keys |= setOf(key);
                    values[key] = cells[FIRST_ENTRY_CELL + bit];
                    numbers[key] = cells[NUMBER_CELL];
                    blocks[key] = block;
                }
            }
        }

        /** Of equal commit numbers the first counts, which is that of the lower block. */
        boolean isBetter(int key, int number) {
            return !isIn(keys, key) || number > numbers[key];
        }
    }
}
