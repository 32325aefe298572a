/** What several tests do with a file. */
final class Help {
    private static final int SLOTS = 3;
    private static final int PINS = 2;
    private static final int KEYS = 64;
    private static final int BLOCKS = 32;
    private static final int CELLS = 13;

    private Help() {
    }

    static void feed(ShadowFile file, String text) {
        for (int i = 0; i < text.length(); i++) {
            file.feed(text.charAt(i));
        }
    }

    static String output(ShadowFile file) {
        StringBuilder text = new StringBuilder();
        try {
            for (int i = 0; i < 100000; i++) {
                text.append(file.outputAt(i));
            }
        } catch (IndexOutOfBoundsException end) {
            return text.toString();
        }
        return text.toString();
    }

    /** Begins a slot, gives it the changes of the text, makes it ready, and answers it. */
    static int makeReady(ShadowFile file, String changes) {
        int slot = file.begin();
        if (!changes.isEmpty()) {
            feed(file, changes);
            int entries = file.readChanges(slot);
            if (entries < 1) {
                throw new IllegalStateException("wrong test: " + changes + " answers " + entries);
            }
        }
        file.ready(slot);
        return slot;
    }

    static int commit(ShadowFile file, String changes) {
        makeReady(file, changes);
        return file.commit(-1);
    }

    /** A new file with one commit of the changes. */
    static ShadowFile with(String changes) {
        ShadowFile file = new ShadowFile();
        commit(file, changes);
        return file;
    }

    /** A file with the commit 1, in which key 1 is 1, closed by a power failure. */
    static ShadowFile closed() {
        ShadowFile file = with("1=1");
        makeReady(file, "1=2");
        file.commit(0);
        return file;
    }

    /** A file with the commit 1, in which each key k is 100 * k - 3000. */
    static ShadowFile full() {
        ShadowFile file = new ShadowFile();
        int slot = file.begin();
        for (int key = 0; key < KEYS; key++) {
            file.put(slot, key, 100 * key - 3000);
        }
        file.ready(slot);
        file.commit(-1);
        return file;
    }

    /** A new file whose commit number is another one. */
    static ShadowFile numbered(int number) {
        ShadowFile file = new ShadowFile();
        change(file, 0, 1, number);
        change(file, 2, 1, number);
        file.reopen();
        return file;
    }

    /** The numbers nearest outside a range, and those farthest outside it. */
    static int[] outside(int first, int last) {
        return new int[] {first - 1, last + 1, Integer.MIN_VALUE, Integer.MAX_VALUE};
    }

    /** The length of the input, which is emptied by it. */
    static int inputLength(ShadowFile file) {
        int length = file.feed('x') - 1;
        empty(file);
        return length;
    }

    static void empty(ShadowFile file) {
        try {
            file.readChanges(-1);
        } catch (IndexOutOfBoundsException expected) {
            return;
        }
        throw new IllegalStateException("readChanges(-1) answered");
    }

    static String records(ShadowFile file) {
        StringBuilder text = new StringBuilder();
        for (int i = 0; i < file.size(); i++) {
            int key = file.keyAt(i);
            text.append(i == 0 ? "" : ",").append(key).append('=').append(file.value(key));
        }
        return text.toString();
    }

    /** Changes a cell, and gives the block its right checksum again. */
    static void change(ShadowFile file, int block, int cell, int content) {
        file.damage(block, cell, content);
        seal(file, block);
    }

    static void seal(ShadowFile file, int block) {
        file.damage(block, 12, file.checksum(block));
    }

    static String block(ShadowFile file, int block) {
        StringBuilder text = new StringBuilder();
        for (int cell = 0; cell < CELLS - 1; cell++) {
            text.append(cell == 0 ? "" : " ").append(file.cell(block, cell));
        }
        return text.toString();
    }

    static String disk(ShadowFile file) {
        StringBuilder text = new StringBuilder();
        for (int block = 0; block < BLOCKS; block++) {
            text.append(block(file, block)).append(' ').append(file.cell(block, 12)).append('\n');
        }
        return text.toString();
    }

    /** All that can be seen of a file without changing it, but for the input. */
    static String state(ShadowFile file) {
        StringBuilder text = new StringBuilder();
        text.append(file.isOpen()).append(' ').append(file.blocksToWrite()).append('\n');
        if (file.isOpen()) {
            text.append(present(file));
        }
        text.append(slots(file)).append(pins(file)).append(disk(file)).append(output(file));
        text.append('\n').append(log(file)).append(statistics(file)).append(salvaged(file));
        return text.toString();
    }

    private static String present(ShadowFile file) {
        StringBuilder text = new StringBuilder();
        text.append(file.commitNumber()).append(' ').append(records(file)).append('\n');
        for (int page = 0; page < 8; page++) {
            text.append(file.pageBlock(page)).append(' ');
        }
        for (int i = 0; i < file.freeCount(); i++) {
            text.append(file.freeBlock(i)).append(' ');
        }
        return text.append(file.wrongBlock()).append('\n').toString();
    }

    static String slots(ShadowFile file) {
        StringBuilder text = new StringBuilder();
        for (int slot = 0; slot < SLOTS; slot++) {
            text.append(file.slotState(slot)).append(' ').append(file.changes(slot)).append(':');
            for (int key = 0; key < KEYS && file.slotState(slot) != 0; key++) {
                try {
                    text.append(' ').append(file.get(slot, key));
                } catch (java.util.NoSuchElementException missing) {
                    text.append(" -");
                }
            }
            text.append('\n');
        }
        return text.toString();
    }

    private static String pins(ShadowFile file) {
        StringBuilder text = new StringBuilder();
        for (int pin = 0; pin < PINS; pin++) {
            try {
                text.append(file.pinnedCommit(pin)).append(':');
            } catch (IllegalStateException unused) {
                text.append("unused\n");
                continue;
            }
            for (int key = 0; key < KEYS; key++) {
                try {
                    text.append(' ').append(file.pinnedValue(pin, key));
                } catch (java.util.NoSuchElementException missing) {
                    text.append(" -");
                }
            }
            text.append('\n');
        }
        return text.toString();
    }

    static String log(ShadowFile file) {
        StringBuilder text = new StringBuilder();
        for (int i = 0; i < file.logSize(); i++) {
            for (int what = 0; what < 4; what++) {
                text.append(file.logged(i, what)).append(what < 3 ? " " : "\n");
            }
        }
        return text.toString();
    }

    static String statistics(ShadowFile file) {
        StringBuilder text = new StringBuilder();
        for (int what = 0; what < 8; what++) {
            text.append(file.statistic(what)).append(what < 7 ? " " : "\n");
        }
        return text.toString();
    }

    static String salvaged(ShadowFile file) {
        StringBuilder text = new StringBuilder();
        try {
            for (int i = 0; i <= KEYS; i++) {
                for (int what = 0; what < 4; what++) {
                    text.append(file.salvaged(i, what)).append(what < 3 ? " " : "\n");
                }
            }
        } catch (IndexOutOfBoundsException end) {
            return text.toString();
        }
        return text.toString();
    }
}
