import java.io.IOException;

/** Each sentence of the promises 31 to 39, by a test of its own. */
public final class LogAndPinSentencesTest {
    private static final String NO_SUCH_PIN =
            "Throws IndexOutOfBoundsException if there is no such pin";
    private static final String UNUSED = "Throws IllegalStateException if the pin is unused";
    private static final String WHAT_OUT =
            "Throws IllegalArgumentException if what is out of range";

    private interface PinCall {
        Object of(ShadowFile file, int pin);
    }

    private LogAndPinSentencesTest() {
    }

    public static void main(String[] args) throws IOException {
        logSize();
        logged();
        statistic();
        pin();
        pinnedValue();
        pinnedCommit();
        unpin();
        differences();
        differentKey();
        Check.endOfSentences("LogAndPinSentencesTest", 31, 39);
    }

    private static void logSize() {
        Check.sentence(31, "Returns the number of entries of the log.");
        ShadowFile file = Help.with("1=1");
        Check.same("one commit", file.logSize(), 1);
        Help.makeReady(file, "1=2");
        file.commit(0);
        Check.same("a commit without power", file.logSize(), 2);
        Check.failsOnly("a commit that throws", Check.STATE, () -> file.commit(-1));
        Check.same("a commit that throws", file.logSize(), 2);

        Check.sentence(31, "Returns the number of entries, 0 to 8.");
        ShadowFile many = new ShadowFile();
        Check.same("at first", many.logSize(), 0);
        for (int number = 1; number <= 20; number++) {
            Help.commit(many, "");
            Check.same("commits", many.logSize(), Math.min(number, 8));
        }
    }

    private static void logged() {
        Check.sentence(32, "Returns a number of an entry of the log.");
        ShadowFile file = new ShadowFile();
        Help.makeReady(file, "1=1,2=1,3=1");
        Help.makeReady(file, "-4");
        Check.same("the commit", file.commit(-1), 1);
        Check.same("an entry", file.logged(0, 3), 5);

        Check.sentence(32, "what: 0 for the commit number, 1 for the number of slots, 2 for the"
                + " number of affected pages, 3 for the number of blocks");
        Check.same("the commit number", file.logged(0, 0), 1);
        Check.same("the number of slots", file.logged(0, 1), 2);
        Check.same("the number of affected pages", file.logged(0, 2), 4);
        Check.same("the number of blocks", file.logged(0, 3), 5);

        Check.sentence(32, "index: the index of the entry, from 0 for the latest one");
        Help.makeReady(file, "1=2");
        file.commit(2);
        Check.same("the latest one", file.logged(0, 0), -1);
        Check.same("the one before", file.logged(1, 0), 1);
        file.reopen();
        for (int number = 2; number <= 10; number++) {
            Help.commit(file, "");
        }
        for (int index = 0; index < 8; index++) {
            Check.same("index " + index, file.logged(index, 0), 10 - index);
        }

        Check.sentence(32, "Returns the number.");
        Help.makeReady(file, "0=1,1=1,2=1,3=1,4=1,5=1,6=1,7=1");
        Help.makeReady(file, "");
        Help.makeReady(file, "");
        file.commit(9);
        Check.text("all of an entry", Help.log(file).split("\n")[0], "-1 3 8 9");

        Check.sentence(32, "Throws IndexOutOfBoundsException if there is no such entry");
        for (int index : Help.outside(0, 7)) {
            Check.fails("index " + index, file, Check.INDEX, () -> file.logged(index, 0));
        }
        ShadowFile one = Help.with("1=1");
        Check.fails("index 1 of one entry", one, Check.INDEX, () -> one.logged(1, 0));
        ShadowFile empty = new ShadowFile();
        Check.fails("index 0 of an empty log", empty, Check.INDEX, () -> empty.logged(0, 0));

        Check.sentence(32, WHAT_OUT);
        for (int what : Help.outside(0, 3)) {
            Check.fails("what " + what, one, Check.ARGUMENT, () -> one.logged(0, what));
        }
    }

    private static void statistics(String what, ShadowFile file, String due) {
        Check.text(what, Help.statistics(file), due + "\n");
    }

    private static void statistic() {
        Check.sentence(33, "Returns how often something has happened since the file was created.");
        ShadowFile file = new ShadowFile();
        statistics("at first", file, "0 0 0 0 0 0 0 0");
        Help.commit(file, "1=1,2=2");
        Help.commit(file, "1=1");
        statistics("two commits", file, "2 0 7 0 0 0 0 0");

        Check.sentence(33, "what: 0 for commits without a power failure, 1 for commits with one, 2"
                + " for blocks that commits wrote completely, 3 for blocks that they wrote in part,"
                + " 4 for calls of reopen that did not throw an exception, 5 for calls of reopen"
                + " that threw one, 6 for records that were salvaged in all calls of salvage"
                + " together, 7 for cells that damage changed to a different content");
        for (int blocks = 0; blocks < 3; blocks++) {
            Help.makeReady(file, "1=2");
            file.commit(blocks);
            file.reopen();
        }
        statistics("power failures", file, "2 3 10 3 3 0 0 0");
        Help.makeReady(file, "1=2");
        file.commit(3);
        statistics("enough power", file, "3 3 13 3 3 0 0 0");
        Check.failsOnly("commit", Check.STATE, () -> file.commit(-1));
        statistics("a commit that throws", file, "3 3 13 3 3 0 0 0");
        file.salvage();
        file.salvage();
        statistics("salvage", file, "3 3 13 3 3 0 4 0");
        file.damage(0, 0, 1);
        Check.failsOnly("damage", Check.INDEX, () -> file.damage(32, 0, 1));
        statistics("damage with the same content", file, "3 3 13 3 3 0 4 0");
        file.damage(0, 0, 2);
        file.damage(1, 12, 2);
        file.damage(1, 12, 3);
        statistics("damage", file, "3 3 13 3 3 0 4 3");
        Check.failsOnly("reopen", Check.STATE, file::reopen);
        Check.failsOnly("reopen", Check.STATE, file::reopen);
        statistics("reopen that throws", file, "3 3 13 3 3 2 4 3");

        Check.sentence(33, "Formatting does not change these counts.");
        file.format();
        statistics("a closed file", file, "3 3 13 3 3 2 4 3");
        file.format();
        statistics("an open file", file, "3 3 13 3 3 2 4 3");

        Check.sentence(33, "Returns the count.");
        file.salvage();
        Check.same("no records more", file.statistic(6), 4);
        Help.commit(file, "1=1");
        Check.same("one commit more", file.statistic(0), 4);

        Check.sentence(33, WHAT_OUT);
        for (int what : Help.outside(0, 7)) {
            Check.fails("what " + what, file, Check.ARGUMENT, () -> file.statistic(what));
        }
    }

    private static void pin() {
        Check.sentence(34, "Sets the unused pin with the lowest number to the present version.");
        ShadowFile file = Help.with("1=1");
        int first = file.pin();
        Help.commit(file, "1=2");
        int second = file.pin();
        Check.same("pin 0", file.pinnedValue(0, 1), 1);
        Check.same("pin 1", file.pinnedValue(1, 1), 2);
        Help.commit(file, "1=3");
        file.unpin(1);
        file.unpin(0);
        int again = file.pin();
        Check.same("pin 0 again", file.pinnedValue(0, 1), 3);
        Check.failsOnly("not pin 1", Check.STATE, () -> file.pinnedValue(1, 1));

        Check.sentence(34, "Returns the pin.");
        Check.same("the first", first, 0);
        Check.same("the second", second, 1);
        Check.same("the first again", again, 0);
        Check.same("the second again", file.pin(), 1);

        Check.sentence(34, "Throws IllegalStateException if the file is closed, or no pin is"
                + " unused");
        Check.fails("two pins", file, Check.STATE, file::pin);
        ShadowFile closed = Help.closed();
        Check.fails("a closed file", closed, Check.STATE, closed::pin);
    }

    private static void noSuchPin(int promise, PinCall call) {
        Check.sentence(promise, NO_SUCH_PIN);
        ShadowFile file = Help.with("1=1");
        file.pin();
        file.pin();
        for (int pin : Help.outside(0, 1)) {
            Check.fails("pin " + pin, file, Check.INDEX, () -> call.of(file, pin));
        }
    }

    private static void unused(int promise, PinCall call) {
        Check.sentence(promise, UNUSED);
        ShadowFile file = Help.with("1=1");
        Check.fails("never used", file, Check.STATE, () -> call.of(file, 0));
        file.pin();
        Check.fails("the other one", file, Check.STATE, () -> call.of(file, 1));
        file.unpin(0);
        Check.fails("unpinned", file, Check.STATE, () -> call.of(file, 0));
        file.pin();
        file.reopen();
        Check.fails("behind reopen", file, Check.STATE, () -> call.of(file, 0));
        file.pin();
        file.format();
        Check.fails("behind format", file, Check.STATE, () -> call.of(file, 0));
        file.pin();
        Help.makeReady(file, "");
        file.commit(1);
        Check.fails("behind a power failure", file, Check.STATE, () -> call.of(file, 0));
    }

    private static void pinnedValue() {
        Check.sentence(35, "Returns a value of a pinned version.");
        ShadowFile file = Help.with("0=-9999,63=9999,1=1");
        file.pin();
        Help.commit(file, "0=1,-63,2=2");
        file.pin();
        Check.same("of the one", file.pinnedValue(0, 1), 1);
        Check.same("of the other", file.pinnedValue(1, 2), 2);

        Check.sentence(35, "Returns the value.");
        Check.same("the lowest", file.pinnedValue(0, 0), -9999);
        Check.same("the greatest", file.pinnedValue(0, 63), 9999);
        Check.same("a later one", file.pinnedValue(1, 0), 1);

        noSuchPin(35, (other, pin) -> other.pinnedValue(pin, 1));

        Check.sentence(35, "Throws IllegalArgumentException if the key is out of range");
        for (int key : Help.outside(0, 63)) {
            Check.fails("key " + key, file, Check.ARGUMENT, () -> file.pinnedValue(0, key));
        }

        unused(35, (other, pin) -> other.pinnedValue(pin, 1));

        Check.sentence(35, "Throws NoSuchElementException if the version has no record with the"
                + " key");
        Check.fails("a later record", file, Check.MISSING, () -> file.pinnedValue(0, 2));
        Check.fails("a removed record", file, Check.MISSING, () -> file.pinnedValue(1, 63));
        file.begin();
        file.put(0, 5, 5);
        Check.fails("a change", file, Check.MISSING, () -> file.pinnedValue(1, 5));
    }

    private static void pinnedCommit() {
        Check.sentence(36, "Returns the commit number of a pinned version.");
        ShadowFile file = new ShadowFile();
        file.pin();
        Help.commit(file, "1=1");
        file.pin();
        Help.commit(file, "1=2");
        Check.same("pin 0", file.pinnedCommit(0), 0);
        Check.same("pin 1", file.pinnedCommit(1), 1);

        Check.sentence(36, "Returns the commit number.");
        ShadowFile last = Help.numbered(999999);
        last.pin();
        Check.same("the greatest", last.pinnedCommit(0), 999999);

        noSuchPin(36, ShadowFile::pinnedCommit);
        unused(36, ShadowFile::pinnedCommit);
    }

    private static void unpin() {
        Check.sentence(37, "Makes a pin unused.");
        ShadowFile file = Help.with("1=1,2=2");
        file.pin();
        file.pin();
        int shared = file.unpin(0);
        Check.failsOnly("the pin", Check.STATE, () -> file.pinnedCommit(0));
        Check.same("the other one", file.pinnedCommit(1), 1);

        Check.sentence(37, "Returns the number of blocks that become free.");
        Check.same("the other pin and the present version use them", shared, 0);
        Help.commit(file, "1=2");
        Check.same("freeCount", file.freeCount(), 25);
        file.pin();
        Check.same("a page and a table", file.unpin(1), 2);
        Check.same("freeCount", file.freeCount(), 27);
        Check.same("of the present version", file.unpin(0), 0);
        ShadowFile all = Help.full();
        all.pin();
        Help.commit(all, "0=1,1=1,2=1,3=1,4=1,5=1,6=1,7=1");
        Check.same("eight pages and a table", all.unpin(0), 9);

        noSuchPin(37, ShadowFile::unpin);
        unused(37, ShadowFile::unpin);
    }

    private static void differences() {
        Check.sentence(38, "Returns the number of keys that have different values in a pinned"
                + " version and in the present version, or a record in only one of them.");
        ShadowFile file = Help.with("0=1,1=2,2=0,63=4");
        file.pin();
        Help.commit(file, "0=1,1=3,-2,3=0");
        Check.same("a value, and a record in either", file.differences(0), 3);
        Help.commit(file, "1=2,2=0,-3,-63");
        Check.same("the last key", file.differences(0), 1);
        file.begin();
        file.put(0, 0, 9);
        Check.same("changes do not count", file.differences(0), 1);

        Check.sentence(38, "Returns the number of keys.");
        Help.commit(file, "63=4");
        Check.same("none", file.differences(0), 0);
        ShadowFile all = new ShadowFile();
        all.pin();
        all.begin();
        for (int key = 0; key < 64; key++) {
            all.put(0, key, 0);
        }
        all.ready(0);
        all.commit(-1);
        Check.same("all", all.differences(0), 64);

        noSuchPin(38, ShadowFile::differences);
        unused(38, ShadowFile::differences);
    }

    private static void differentKey() {
        Check.sentence(39, "Returns one of these keys.");
        ShadowFile file = Help.with("0=1,1=2,2=0,63=4");
        file.pin();
        Help.commit(file, "63=5,1=2,-2,3=0,0=9");
        Check.same("the first", file.differentKey(0, 0), 0);

        Check.sentence(39, "index: the index in ascending order of these keys, from 0");
        int[] due = {0, 2, 3, 63};
        for (int index = 0; index < due.length; index++) {
            Check.same("index " + index, file.differentKey(0, index), due[index]);
        }

        Check.sentence(39, "Returns the key.");
        Help.commit(file, "0=1,2=0,-3");
        Check.same("the last", file.differentKey(0, 0), 63);

        noSuchPin(39, (other, pin) -> other.differentKey(pin, 0));
        unused(39, (other, pin) -> other.differentKey(pin, 0));

        Check.sentence(39, "Throws NoSuchElementException if there is no such index");
        for (int index : Help.outside(0, 0)) {
            Check.fails("index " + index, file, Check.MISSING, () -> file.differentKey(0, index));
        }
        ShadowFile same = Help.with("1=1");
        same.pin();
        Check.fails("no differences", same, Check.MISSING, () -> same.differentKey(0, 0));
        ShadowFile all = Help.full();
        all.pin();
        all.begin();
        for (int key = 0; key < 64; key++) {
            all.remove(0, key);
        }
        all.ready(0);
        all.commit(-1);
        Check.same("index 63 of 64", all.differentKey(0, 63), 63);
        Check.fails("index 64 of 64", all, Check.MISSING, () -> all.differentKey(0, 64));
    }
}
