import java.io.IOException;

/** Each sentence of the promises 1 to 12, by a test of its own. */
public final class SlotSentencesTest {
    private static final int[] NO_SLOTS = Help.outside(0, 2);
    private static final int[] NO_KEYS = Help.outside(0, 63);
    private static final int[] NO_VALUES = Help.outside(-9999, 9999);
    private static final String NO_SUCH_SLOT =
            "Throws IndexOutOfBoundsException if there is no such slot";
    private static final String NOT_ACTIVE = "Throws IllegalStateException if the slot is not active";
    private static final String IDLE = "Throws IllegalStateException if the slot is idle";
    private static final String KEY_OUT =
            "Throws IllegalArgumentException if the key is out of range";
    private static final String NO_RECORD =
            "Throws NoSuchElementException if the view of the slot has no record with the key";

    private interface SlotCall {
        Object of(ShadowFile file, int slot);
    }

    private SlotSentencesTest() {
    }

    public static void main(String[] args) throws IOException {
        newObject();
        format();
        begin();
        put();
        putRefused();
        remove();
        get();
        changes();
        slotState();
        mark();
        goBack();
        ready();
        abandon();
        Check.endOfSentences("SlotSentencesTest", 1, 12);
    }

    private static void noSuchSlot(int promise, SlotCall call) {
        Check.sentence(promise, NO_SUCH_SLOT);
        ShadowFile file = Help.with("1=1");
        for (int slot : NO_SLOTS) {
            Check.fails("slot " + slot, file, Check.INDEX, () -> call.of(file, slot));
        }
        ShadowFile closed = Help.closed();
        for (int slot : NO_SLOTS) {
            Check.fails("slot " + slot + " of a closed file", closed, Check.INDEX,
                    () -> call.of(closed, slot));
        }
    }

    private static void notActive(int promise, SlotCall call) {
        Check.sentence(promise, NOT_ACTIVE);
        refusesIdle(call);
        ShadowFile file = Help.with("1=1");
        Help.makeReady(file, "1=2");
        Check.fails("a ready slot", file, Check.STATE, () -> call.of(file, 0));
    }

    private static void idle(int promise, SlotCall call) {
        Check.sentence(promise, IDLE);
        refusesIdle(call);
    }

    private static void refusesIdle(SlotCall call) {
        ShadowFile file = Help.with("1=1");
        file.begin();
        Check.fails("a slot that was never active", file, Check.STATE, () -> call.of(file, 2));
        ShadowFile committed = Help.with("1=1");
        Check.fails("a slot behind its commit", committed, Check.STATE,
                () -> call.of(committed, 0));
        file.begin();
        file.abandon(1);
        Check.fails("an abandoned slot", file, Check.STATE, () -> call.of(file, 1));
        file.reopen();
        Check.fails("a slot behind reopen", file, Check.STATE, () -> call.of(file, 0));
        file.begin();
        file.format();
        Check.fails("a slot behind format", file, Check.STATE, () -> call.of(file, 0));
        ShadowFile closed = Help.closed();
        Check.fails("a slot of a closed file", closed, Check.STATE, () -> call.of(closed, 0));
    }

    private static void newObject() {
        Check.sentence(1, "Creates a new file, which is open.");
        ShadowFile file = new ShadowFile();
        Check.yes("isOpen", file.isOpen());
        Check.same("commitNumber", file.commitNumber(), 0);
        Check.same("size", file.size(), 0);
        Check.same("freeCount", file.freeCount(), 29);
        Check.same("wrongBlock", file.wrongBlock(), -1);
        Check.same("reopen", file.reopen(), 0);

        Check.sentence(1, "All slots are idle, both pins are unused, the input is empty, and"
                + " nothing was salvaged.");
        ShadowFile other = new ShadowFile();
        for (int slot = 0; slot < 3; slot++) {
            Check.same("slot " + slot, other.slotState(slot), 0);
        }
        Check.failsOnly("pin 0", Check.STATE, () -> other.pinnedCommit(0));
        Check.failsOnly("pin 1", Check.STATE, () -> other.pinnedCommit(1));
        Check.same("the input", Help.inputLength(other), 0);
        Check.failsOnly("salvaged", Check.INDEX, () -> other.salvaged(0, 0));
        Check.same("begin", other.begin(), 0);
        Check.same("adopt", other.adopt(0), 0);
    }

    private static void format() {
        Check.sentence(2, "Formats the disk, and opens the file.");
        String fresh = Help.disk(new ShadowFile());
        ShadowFile closed = Help.closed();
        closed.format();
        Check.yes("a closed file is open", closed.isOpen());
        Check.text("its disk", Help.disk(closed), fresh);
        ShadowFile open = Help.with("1=1,2=2");
        open.damage(31, 0, 3);
        open.format();
        Check.yes("an open file is open", open.isOpen());
        Check.text("its disk", Help.disk(open), fresh);
        Check.same("its commit number", open.commitNumber(), 0);
        Check.same("its records", open.size(), 0);
        Check.same("its free blocks", open.freeCount(), 29);
        Check.same("its page 1", open.pageBlock(1), -1);
        Check.same("its root block", open.wrongBlock(), -1);
        Check.same("its next commit", Help.commit(open, "1=1"), 1);

        Check.sentence(2, "All slots become idle, and both pins become unused.");
        ShadowFile busy = Help.with("1=1");
        busy.pin();
        busy.pin();
        busy.begin();
        busy.mark(0);
        Help.makeReady(busy, "2=2");
        Help.makeReady(busy, "3=3");
        busy.format();
        for (int slot = 0; slot < 3; slot++) {
            Check.same("slot " + slot, busy.slotState(slot), 0);
        }
        Check.same("none is ready", busy.blocksToWrite(), 0);
        Check.failsOnly("pin 0", Check.STATE, () -> busy.pinnedCommit(0));
        Check.failsOnly("pin 1", Check.STATE, () -> busy.pinnedCommit(1));

        Check.sentence(2, "The input, the output and what was salvaged stay.");
        ShadowFile texts = Help.with("1=1");
        texts.writeRecords();
        texts.salvage();
        Help.feed(texts, "7=7");
        texts.format();
        Check.text("the output", Help.output(texts), "1=1");
        Check.text("what was salvaged", Help.salvaged(texts), "1 1 1 3\n");
        texts.begin();
        Check.same("the input", texts.readChanges(0), 1);
        Check.same("its value", texts.get(0, 7), 7);

        Check.sentence(2, "Returns the commit number before, or -1 if the file was closed.");
        Check.same("a new file", new ShadowFile().format(), 0);
        Check.same("a file with a commit", Help.with("1=1").format(), 1);
        Check.same("the greatest number", Help.numbered(999999).format(), 999999);
        Check.same("a file that was formatted and has a commit", open.format(), 1);
        Check.same("a formatted file", open.format(), 0);
        Check.same("a file without power", Help.closed().format(), -1);
        ShadowFile lost = Help.with("1=1");
        lost.damage(0, 0, 9);
        lost.damage(1, 0, 9);
        Check.failsOnly("reopen", Check.STATE, lost::reopen);
        Check.same("a file that could not be reopened", lost.format(), -1);
        Check.same("a formatted file", lost.format(), 0);
    }

    private static void begin() {
        Check.sentence(3, "Makes the idle slot with the lowest number active, without changes.");
        ShadowFile file = new ShadowFile();
        file.begin();
        Check.same("slot 0", file.slotState(0), 1);
        Check.same("not slot 1", file.slotState(1), 0);
        file.put(0, 1, 1);
        file.mark(0);
        file.begin();
        file.begin();
        file.ready(0);
        file.commit(-1);
        file.abandon(2);
        file.begin();
        Check.same("slot 0 again", file.slotState(0), 1);
        Check.same("not slot 2", file.slotState(2), 0);
        Check.same("its changes", file.changes(0), 0);
        Check.fails("its marks", file, Check.MISSING, () -> file.goBack(0));
        Check.same("its view", file.get(0, 1), 1);
        file.mark(0);
        file.abandon(0);
        file.begin();
        Check.fails("the marks of an abandoned slot", file, Check.MISSING, () -> file.goBack(0));
        file.mark(0);
        file.reopen();
        file.begin();
        Check.fails("the marks before reopen", file, Check.MISSING, () -> file.goBack(0));
        file.mark(0);
        file.format();
        file.begin();
        Check.fails("the marks before format", file, Check.MISSING, () -> file.goBack(0));
        file.begin();

        Check.sentence(3, "Returns the slot.");
        Check.same("the last idle slot", file.begin(), 2);
        file.abandon(1);
        Check.same("the one in the middle", file.begin(), 1);

        Check.sentence(3, "Throws IllegalStateException if the file is closed, or no slot is idle");
        Check.fails("three active slots", file, Check.STATE, file::begin);
        file.ready(1);
        file.ready(0);
        file.ready(2);
        Check.fails("three ready slots", file, Check.STATE, file::begin);
        ShadowFile closed = Help.closed();
        Check.fails("a closed file", closed, Check.STATE, closed::begin);
    }

    private static void put() {
        Check.sentence(4, "Changes a key to a new value in an active slot.");
        ShadowFile file = Help.with("1=1,2=2");
        file.begin();
        file.begin();
        file.put(0, 1, 5);
        file.put(0, 1, 6);
        file.put(0, 63, -9999);
        Check.same("a record", file.get(0, 1), 6);
        Check.same("a new key", file.get(0, 63), -9999);
        Check.same("another key", file.get(0, 2), 2);
        Check.same("changes", file.changes(0), 2);
        Check.same("the present version", file.value(1), 1);
        Check.same("another slot", file.get(1, 1), 1);

        Check.sentence(4, "Returns whether there was a record with the key in the view of the slot"
                + " before.");
        ShadowFile view = Help.with("1=1,2=2");
        view.begin();
        Check.yes("of the present version", view.put(0, 1, 1));
        Check.no("no record", view.put(0, 3, 3));
        Check.yes("of the slot's changes", view.put(0, 3, 4));
        view.remove(0, 2);
        Check.no("removed in the slot", view.put(0, 2, 2));
        Help.commit(view, "5=5,-1");
        Check.yes("of a later version", view.put(0, 5, 5));
        Check.yes("removed by a commit, changed in the slot", view.put(0, 1, 1));
        view.begin();
        Check.no("of another slot", view.put(1, 3, 4));
    }

    private static void putRefused() {
        noSuchSlot(4, (file, slot) -> file.put(slot, 0, 0));

        Check.sentence(4, "Throws IllegalArgumentException if the key or the value is out of range");
        ShadowFile file = new ShadowFile();
        file.begin();
        for (int key : NO_KEYS) {
            Check.fails("key " + key, file, Check.ARGUMENT, () -> file.put(0, key, 0));
            Check.fails("key " + key, file, Check.ARGUMENT, () -> file.put(0, key, 10000));
        }
        for (int value : NO_VALUES) {
            Check.fails("value " + value, file, Check.ARGUMENT, () -> file.put(0, 0, value));
        }
        Check.no("the lowest key and value", file.put(0, 0, -9999));
        Check.no("the greatest key and value", file.put(0, 63, 9999));

        notActive(4, (other, slot) -> other.put(slot, 1, 9));
    }

    private static void remove() {
        Check.sentence(5, "Changes a key to a removal in an active slot.");
        ShadowFile file = Help.with("0=-3,1=1,63=8");
        file.begin();
        file.put(0, 5, 5);
        file.put(0, 1, 7);
        int[] removed = {file.remove(0, 0), file.remove(0, 5), file.remove(0, 1)};
        int[] keys = {0, 5, 1};
        for (int key : keys) {
            Check.failsOnly("key " + key, Check.MISSING, () -> file.get(0, key));
        }
        Check.same("changes", file.changes(0), 3);
        file.writeChanges(0);
        Check.text("the changes", Help.output(file), "-0,-1,-5");
        Check.same("the present version", file.value(0), -3);

        Check.sentence(5, "Returns the value of the record in the view of the slot before.");
        Check.same("of the present version", removed[0], -3);
        Check.same("a new record of the slot", removed[1], 5);
        Check.same("a changed record", removed[2], 7);
        Check.same("the greatest key", file.remove(0, 63), 8);

        noSuchSlot(5, (other, slot) -> other.remove(slot, 1));
        keyOut(5, (other, key) -> other.remove(0, key));
        notActive(5, (other, slot) -> other.remove(slot, 1));

        Check.sentence(5, NO_RECORD);
        Check.fails("removed twice", file, Check.MISSING, () -> file.remove(0, 63));
        Check.fails("never a record", file, Check.MISSING, () -> file.remove(0, 2));
        file.begin();
        Check.fails("a record of another slot", file, Check.MISSING, () -> file.remove(1, 5));
    }

    private static void keyOut(int promise, SlotCall call) {
        Check.sentence(promise, KEY_OUT);
        ShadowFile file = Help.with("0=1,63=2");
        file.begin();
        for (int key : NO_KEYS) {
            Check.fails("key " + key, file, Check.ARGUMENT, () -> call.of(file, key));
        }
        Check.same("key 0", (Integer) call.of(file, 0), 1);
        Check.same("key 63", (Integer) call.of(file, 63), 2);
    }

    private static void get() {
        Check.sentence(6, "Returns a value in the view of a slot.");
        ShadowFile file = Help.with("1=1,2=2");
        file.begin();
        file.put(0, 1, 11);
        Check.same("of an active slot", file.get(0, 1), 11);
        file.ready(0);
        Check.same("of a ready slot", file.get(0, 1), 11);

        Check.sentence(6, "Returns the value.");
        file.begin();
        file.put(1, 0, -9999);
        file.put(1, 63, 9999);
        Check.same("the lowest value", file.get(1, 0), -9999);
        Check.same("the greatest value", file.get(1, 63), 9999);
        Check.same("a value of the present version", file.get(1, 2), 2);

        noSuchSlot(6, (other, slot) -> other.get(slot, 1));
        keyOut(6, (other, key) -> other.get(0, key));
        idle(6, (other, slot) -> other.get(slot, 1));

        Check.sentence(6, NO_RECORD);
        Check.fails("never a record", file, Check.MISSING, () -> file.get(0, 3));
        file.remove(1, 2);
        Check.fails("a removed record", file, Check.MISSING, () -> file.get(1, 2));
        Check.fails("a record of another slot", file, Check.MISSING, () -> file.get(0, 63));
    }

    private static void changes() {
        Check.sentence(7, "Returns the number of keys that a slot changes.");
        ShadowFile file = Help.with("1=1");
        file.begin();
        Check.same("none", file.changes(0), 0);
        file.put(0, 1, 1);
        Check.same("a record that stays the same", file.changes(0), 1);
        file.put(0, 1, 2);
        file.remove(0, 1);
        Check.same("the same key", file.changes(0), 1);
        for (int key = 0; key < 64; key++) {
            file.put(0, key, key);
        }
        Check.same("all keys", file.changes(0), 64);

        Check.sentence(7, "Returns the number of keys, 0 if the slot is idle.");
        file.ready(0);
        Check.same("a ready slot", file.changes(0), 64);
        Check.same("a slot that was never active", file.changes(2), 0);
        file.commit(-1);
        Check.same("a slot behind its commit", file.changes(0), 0);
        file.begin();
        file.put(0, 1, 1);
        file.abandon(0);
        Check.same("an abandoned slot", file.changes(0), 0);
        Check.same("a slot of a closed file", Help.closed().changes(0), 0);

        noSuchSlot(7, ShadowFile::changes);
    }

    private static void slotState() {
        Check.sentence(8, "Returns the state of a slot.");
        ShadowFile file = Help.with("1=1");
        file.begin();
        file.begin();
        file.begin();
        file.ready(1);
        file.abandon(2);
        Check.same("slot 0", file.slotState(0), 1);
        Check.same("slot 1", file.slotState(1), 2);
        Check.same("slot 2", file.slotState(2), 0);

        Check.sentence(8, "Returns 0 if it is idle, 1 if it is active, 2 if it is ready.");
        ShadowFile one = new ShadowFile();
        Check.same("idle", one.slotState(0), 0);
        one.begin();
        Check.same("active", one.slotState(0), 1);
        one.ready(0);
        Check.same("ready", one.slotState(0), 2);
        one.commit(-1);
        Check.same("idle again", one.slotState(0), 0);

        noSuchSlot(8, ShadowFile::slotState);
    }

    private static void mark() {
        Check.sentence(9, "Sets a mark in an active slot.");
        ShadowFile file = Help.with("1=1");
        file.begin();
        file.begin();
        file.put(0, 1, 5);
        file.mark(0);
        file.put(0, 1, 6);
        file.goBack(0);
        Check.same("the mark remembers", file.get(0, 1), 5);
        Check.fails("another slot has none", file, Check.MISSING, () -> file.goBack(1));

        Check.sentence(9, "Returns the number of marks of the slot.");
        Check.same("the first", file.mark(0), 1);
        Check.same("the second", file.mark(0), 2);
        Check.same("of another slot", file.mark(1), 1);
        Check.same("the third", file.mark(0), 3);
        file.goBack(0);
        Check.same("the third again", file.mark(0), 3);

        noSuchSlot(9, ShadowFile::mark);

        Check.sentence(9, "Throws IllegalStateException if the slot is not active or has 3 marks");
        Check.fails("3 marks", file, Check.STATE, () -> file.mark(0));
        Check.same("another slot has fewer", file.mark(1), 2);
        refusesIdle(ShadowFile::mark);
        file.ready(1);
        Check.fails("a ready slot", file, Check.STATE, () -> file.mark(1));
    }

    private static void goBack() {
        Check.sentence(10, "Removes the mark of an active slot that was set last, and gives the"
                + " slot the changes that this mark remembers.");
        ShadowFile file = Help.with("1=1,2=2");
        file.begin();
        file.mark(0);
        file.put(0, 1, 5);
        file.remove(0, 2);
        file.mark(0);
        file.put(0, 1, 6);
        file.put(0, 2, 7);
        file.put(0, 3, 8);
        file.goBack(0);
        file.writeChanges(0);
        Check.text("the later mark", Help.output(file), "1=5,-2");
        file.goBack(0);
        file.writeChanges(0);
        Check.text("the first mark", Help.output(file), "");
        Check.same("the view", file.get(0, 2), 2);
        Check.same("no marks are left", file.mark(0), 1);

        Check.sentence(10, "Returns the number of keys that the slot changes then.");
        file.put(0, 0, 5);
        file.put(0, 63, 6);
        file.mark(0);
        for (int key = 0; key < 64; key++) {
            file.put(0, key, 3);
        }
        file.mark(0);
        Check.same("all keys", file.goBack(0), 64);
        Check.same("two keys", file.goBack(0), 2);
        Check.same("the lowest key", file.get(0, 0), 5);
        Check.same("the greatest key", file.get(0, 63), 6);
        Check.same("no keys", file.goBack(0), 0);

        noSuchSlot(10, ShadowFile::goBack);
        notActive(10, ShadowFile::goBack);

        Check.sentence(10, "Throws NoSuchElementException if the slot has no marks");
        Check.fails("all marks are gone", file, Check.MISSING, () -> file.goBack(0));
        file.begin();
        file.put(1, 1, 1);
        Check.fails("never a mark", file, Check.MISSING, () -> file.goBack(1));
    }

    private static void ready() {
        Check.sentence(11, "Makes an active slot ready.");
        ShadowFile file = new ShadowFile();
        file.begin();
        file.begin();
        file.put(1, 5, 5);
        file.mark(1);
        file.ready(1);
        Check.same("the slot", file.slotState(1), 2);
        Check.same("another slot", file.slotState(0), 1);
        Check.same("its changes stay", file.changes(1), 1);

        Check.sentence(11, "Its marks are removed.");
        file.abandon(1);
        file.begin();
        Check.fails("the slot used again", file, Check.MISSING, () -> file.goBack(1));
        Check.same("the first mark then", file.mark(1), 1);
        file.mark(1);
        file.mark(1);
        file.ready(1);
        file.commit(-1);
        file.begin();
        Check.same("the first mark behind a commit", file.mark(1), 1);

        Check.sentence(11, "Returns the number of ready slots.");
        Check.same("the first", file.ready(1), 1);
        Check.same("the second", file.ready(0), 2);
        file.begin();
        Check.same("the third", file.ready(2), 3);
        file.abandon(0);
        file.begin();
        Check.same("the third again", file.ready(0), 3);
        file.commit(-1);
        file.begin();
        Check.same("the first behind a commit", file.ready(0), 1);

        noSuchSlot(11, ShadowFile::ready);
        notActive(11, ShadowFile::ready);
    }

    private static void abandon() {
        Check.sentence(12, "Makes an active or ready slot idle without committing its changes.");
        ShadowFile file = Help.with("1=1");
        file.begin();
        file.put(0, 1, 2);
        int active = file.abandon(0);
        Check.same("an active slot", file.slotState(0), 0);
        Help.makeReady(file, "1=3,5=5");
        Help.makeReady(file, "2=4");
        int ready = file.abandon(0);
        Check.same("a ready slot", file.slotState(0), 0);
        Check.same("the other ready slot", file.slotState(1), 2);
        Check.same("commit", file.commit(-1), 2);
        Check.text("the records", Help.records(file), "1=1,2=4");
        Check.same("slots of the commit", file.logged(0, 1), 1);

        Check.sentence(12, "Returns the number of keys that it changed.");
        Check.same("of an active slot", active, 1);
        Check.same("of a ready slot", ready, 2);
        file.begin();
        Check.same("none", file.abandon(0), 0);
        file.begin();
        for (int key = 0; key < 64; key++) {
            file.put(0, key, 3);
        }
        Check.same("all keys", file.abandon(0), 64);

        noSuchSlot(12, ShadowFile::abandon);
        idle(12, ShadowFile::abandon);
    }
}
