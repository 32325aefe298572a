import java.io.IOException;

/** Each sentence of the promises 13 to 17, by a test of its own. */
public final class TextSentencesTest {
    private static final int[] NO_SLOTS = Help.outside(0, 2);

    private TextSentencesTest() {
    }

    public static void main(String[] args) throws IOException {
        feed();
        entries();
        formsOfEntries();
        errorPositions();
        effects();
        emptyInput();
        readRefused();
        writeChanges();
        writeRecords();
        outputAt();
        Check.endOfSentences("TextSentencesTest", 13, 17);
    }

    /** A file with an active slot and 60 characters in the input. */
    private static ShadowFile fullInput(String text) {
        ShadowFile file = new ShadowFile();
        file.begin();
        Help.feed(file, text);
        for (int length = text.length(); length < 60; length++) {
            file.feed('0');
        }
        return file;
    }

    private static void feed() {
        Check.sentence(13, "Appends a character to the input.");
        ShadowFile file = Help.with("1=1");
        file.begin();
        Help.feed(file, "63=-9999");
        Check.same("the entry", file.readChanges(0), 1);
        Check.same("its value", file.get(0, 63), -9999);

        Check.sentence(13, "character: any character");
        char[] any = {0, 9, 127, 128, 255, 256, '0' + 256, 0x7fff, 0x8000, 0xffff};
        for (char character : any) {
            Check.same("any character", file.feed(character), 1);
            Check.same("it is there", file.readChanges(0), -100);
        }

        Check.sentence(13, "Returns the new length of the input.");
        ShadowFile lengths = Help.closed();
        for (int length = 1; length <= 60; length++) {
            Check.same("length", lengths.feed('x'), length);
        }

        Check.sentence(13, "Throws IllegalStateException if the input has 60 characters");
        Check.fails("the 61st", lengths, Check.STATE, () -> lengths.feed('x'));
        Check.fails("the 61st once more", lengths, Check.STATE, () -> lengths.feed('x'));
        ShadowFile full = fullInput("-1,");
        Check.fails("the 61st", full, Check.STATE, () -> full.feed(','));
        Check.same("the 60 characters stay", full.readChanges(0), -105);
        Check.same("an empty input takes characters again", full.feed('x'), 1);
    }

    /** What readChanges answers in a new file, and the slot's changes behind a space. */
    private static String read(String text) {
        ShadowFile file = new ShadowFile();
        file.begin();
        Help.feed(file, text);
        int answer = file.readChanges(0);
        file.writeChanges(0);
        return answer + " " + Help.output(file);
    }

    private static void error(String text, int position) {
        Check.text("readChanges of \"" + text + "\"", read(text), -100 - position + " ");
    }

    private static void entries() {
        Check.sentence(14, "Reads the input as changes of an active slot.");
        ShadowFile file = Help.with("1=1,2=2");
        file.begin();
        file.begin();
        Help.feed(file, "1=5,-2,3=-3");
        file.readChanges(1);
        file.writeChanges(1);
        Check.text("the slot", Help.output(file), "1=5,-2,3=-3");
        Check.same("another slot", file.changes(0), 0);
        Check.text("the present version", Help.records(file), "1=1,2=2");

        Check.sentence(14, "The input consists of one or more entries with a comma between two of"
                + " them.");
        Check.text("one entry", read("1=1"), "1 1=1");
        Check.text("two entries", read("1=1,-2"), "2 1=1,-2");
        Check.text("twenty entries", read("-0,-1,-2,-3,-4,-5,-6,-7,-8,-9,-0,-1,-2,-3,-4,-5,-6,-7,"
                + "-8,-9"), "20 -0,-1,-2,-3,-4,-5,-6,-7,-8,-9");
        error("", 0);
        error(",", 0);
        error("1=1,", 4);
        error("1=1,,2=2", 4);
        error(",1=1", 0);
        error("1=1-2", 3);
        error("-1-2", 2);

        Check.sentence(14, "There are no spaces.");
        error(" 1=1", 0);
        error("1 =1", 1);
        error("1= 1", 2);
        error("1=1 ", 3);
        error("1=1, -2", 4);
        error("- 1", 1);
    }

    private static void formsOfEntries() {
        Check.sentence(14, "An entry is written as key=value for a new value, or as a minus sign"
                + " and the key for a removal; a key has 1 to 2 digits, a value has 1 to 4 digits,"
                + " possibly after a minus sign.");
        Check.text("the shortest value", read("0=0"), "1 0=0");
        Check.text("the longest value", read("63=-9999"), "1 63=-9999");
        Check.text("2 digits", read("1=12"), "1 1=12");
        Check.text("3 digits", read("1=123"), "1 1=123");
        Check.text("4 digits", read("1=1234"), "1 1=1234");
        Check.text("the shortest removal", read("-0"), "1 -0");
        Check.text("the longest removal", read("-63"), "1 -63");
        error("=1", 0);
        error("123=1", 2);
        error("1=", 2);
        error("1=-", 3);
        error("1=,", 2);
        error("1=-,", 3);
        error("1=12345", 6);
        error("1=-12345", 7);
        error("-", 1);
        error("-,", 1);
        error("-123", 3);
        error("-1=1", 2);
        error("--1", 1);
        error("1=--1", 3);
        error("+1=1", 0);
        error("1=+1", 2);
        error("1", 1);
        error("12", 2);
        error("1,", 1);
        error("/=1", 0);
        error(":=1", 0);
        error("1=/", 2);
        error("1=:", 2);
        error((char) 0x0661 + "=1", 0);
    }

    private static void errorPositions() {
        Check.sentence(14, "The error position is the position, from 0, of the first character that"
                + " cannot continue such an input, or its length if it ends too early; if there is"
                + " no such error, it is the position of the first digit of the first key above 63,"
                + " if there is one.");
        error("x", 0);
        error("1=1,2=2,x=3", 8);
        error("1=1,2=2,3=x,y", 10);
        error("1=1,2", 5);
        error("1=1,2=", 6);
        error("1=1,-", 5);
        error("64=1", 0);
        error("99=1", 0);
        error("-64", 1);
        error("1=1,-99", 5);
        error("63=1,64=1,65=1", 5);
        error("1=1,64=1,-65", 4);
        error("64=1,2=x", 7);
        error("64=1,2=", 7);
        error("64=1,", 5);
        error("64", 2);
        error("640=1", 2);
        String longest = "1=1,1=1,1=1,1=1,1=1,1=1,1=1,1=1,1=1,1=1,1=1,1=1,1=1,1=1,";
        error(longest + "1=1,", 60);
        error(longest + "-64", 57);
        error(longest + "1=1x", 59);
        Check.text("no error", read(longest + "-63"), "15 1=1,-63");
        ShadowFile twice = new ShadowFile();
        twice.begin();
        Help.feed(twice, "1=1,64=1");
        Check.same("a key above 63", twice.readChanges(0), -104);
        Help.feed(twice, "2=2");
        Check.same("none in the next input", twice.readChanges(0), 1);
    }

    private static void effects() {
        Check.sentence(14, "The entries take effect one after the other; a removal of a key without"
                + " a record in the view is allowed, and is a change as well.");
        Check.text("two values", read("1=1,1=2"), "2 1=2");
        Check.text("a value and a removal", read("1=1,-1"), "2 -1");
        Check.text("a removal and a value", read("-1,1=3"), "2 1=3");
        Check.text("two removals", read("-5,-5"), "2 -5");
        ShadowFile file = Help.with("1=1");
        file.begin();
        file.remove(0, 1);
        Help.feed(file, "-1,-2");
        Check.same("removals without records", file.readChanges(0), 2);
        Check.same("changes", file.changes(0), 2);
        file.ready(0);
        file.commit(-1);
        Check.same("affected pages", file.logged(0, 2), 2);
        Check.same("size", file.size(), 0);

        Check.sentence(14, "If the input has an error, nothing changes in the slot.");
        String[] wrong = {"3=4,-2,64=1", "3=4,-2,x", "3=4,-2,", "-64", ""};
        for (String text : wrong) {
            ShadowFile slot = Help.with("1=1");
            slot.begin();
            slot.put(0, 2, 2);
            Help.feed(slot, text);
            slot.readChanges(0);
            slot.writeChanges(0);
            Check.text("the slot behind \"" + text + "\"", Help.output(slot), "2=2");
            Check.same("it stays active", slot.slotState(0), 1);
        }

        Check.sentence(14, "Returns the number of entries, or -100 minus the error position.");
        Check.text("entries of one key", read("1=1,1=1,1=1"), "3 1=1");
        Check.text("an error at 0", read("y"), "-100 ");
        Check.text("an error at 6", read("1=1,1=y"), "-106 ");
    }

    private static void emptyInput() {
        Check.sentence(14, "The input is empty afterwards in every case, even if an exception is"
                + " thrown.");
        ShadowFile file = new ShadowFile();
        file.begin();
        String[] texts = {"1=1", "1=x", "64=1", "1=1,", ""};
        for (String text : texts) {
            Help.feed(file, text);
            file.readChanges(0);
            Check.same("behind \"" + text + "\"", Help.inputLength(file), 0);
            Help.feed(file, text);
            Check.failsOnly("an idle slot", Check.STATE, () -> file.readChanges(1));
            Check.same("behind an idle slot", Help.inputLength(file), 0);
            for (int slot : NO_SLOTS) {
                Help.feed(file, text);
                Check.failsOnly("slot " + slot, Check.INDEX, () -> file.readChanges(slot));
                Check.same("behind slot " + slot, Help.inputLength(file), 0);
            }
        }
        file.ready(0);
        Help.feed(file, "1=1");
        Check.failsOnly("a ready slot", Check.STATE, () -> file.readChanges(0));
        Check.same("behind a ready slot", Help.inputLength(file), 0);
        file.commit(0);
        Help.feed(file, "1=1");
        Check.failsOnly("a closed file", Check.STATE, () -> file.readChanges(0));
        Check.same("behind a closed file", Help.inputLength(file), 0);
        ShadowFile full = fullInput("-1,");
        full.readChanges(0);
        Check.same("behind a full input", Help.inputLength(full), 0);
    }

    private static void readRefused() {
        Check.sentence(14, "Throws IndexOutOfBoundsException if there is no such slot");
        ShadowFile file = new ShadowFile();
        file.begin();
        for (int slot : NO_SLOTS) {
            Help.feed(file, "1=1");
            Check.fails("slot " + slot, file, Check.INDEX, () -> file.readChanges(slot));
            Check.fails("an empty input", file, Check.INDEX, () -> file.readChanges(slot));
        }

        Check.sentence(14, "Throws IllegalStateException if the slot is not active");
        Help.feed(file, "1=1");
        Check.fails("an idle slot", file, Check.STATE, () -> file.readChanges(1));
        Check.fails("an empty input", file, Check.STATE, () -> file.readChanges(1));
        file.ready(0);
        Help.feed(file, "1=1");
        Check.fails("a ready slot", file, Check.STATE, () -> file.readChanges(0));
        Help.feed(file, "x");
        Check.fails("a wrong input", file, Check.STATE, () -> file.readChanges(0));
    }

    private static void writeChanges() {
        Check.sentence(15, "Writes the changes of a slot to the output in the form in which"
                + " readChanges reads them, in ascending order of their keys, in place of what the"
                + " output contains.");
        ShadowFile file = Help.with("1=1,2=2");
        Check.same("longer output before", file.writeRecords(), 7);
        file.begin();
        file.put(0, 63, -1);
        file.put(0, 0, 0);
        file.remove(0, 2);
        file.put(0, 10, 9999);
        int length = file.writeChanges(0);
        Check.text("the output", Help.output(file), "0=0,-2,10=9999,63=-1");
        Help.feed(file, Help.output(file));
        file.begin();
        Check.same("it can be read", file.readChanges(1), 4);
        file.writeChanges(1);
        Check.text("the same again", Help.output(file), "0=0,-2,10=9999,63=-1");
        file.ready(0);
        file.remove(1, 10);
        file.writeChanges(0);
        Check.text("a ready slot", Help.output(file), "0=0,-2,10=9999,63=-1");

        Check.sentence(15, "Returns the length of the output.");
        Check.same("of four entries", length, 20);
        Check.same("with another removal", file.writeChanges(1), 16);
        ShadowFile all = new ShadowFile();
        all.begin();
        for (int key = 0; key < 64; key++) {
            all.put(0, key, -9999);
        }
        Check.same("of 64 entries", all.writeChanges(0), 10 * 7 + 54 * 8 + 63);
        Check.same("the last character", all.outputAt(564), '9');

        Check.sentence(15, "Without changes, the output is empty.");
        file.begin();
        Check.same("its length", file.writeChanges(2), 0);
        Check.text("the output", Help.output(file), "");

        Check.sentence(15, "The output is also empty at first.");
        Check.text("the output", Help.output(new ShadowFile()), "");

        Check.sentence(15, "Throws IndexOutOfBoundsException if there is no such slot");
        for (int slot : NO_SLOTS) {
            Check.fails("slot " + slot, all, Check.INDEX, () -> all.writeChanges(slot));
        }

        Check.sentence(15, "Throws IllegalStateException if the slot is idle");
        Check.fails("an idle slot", all, Check.STATE, () -> all.writeChanges(1));
        all.abandon(0);
        Check.fails("an abandoned slot", all, Check.STATE, () -> all.writeChanges(0));
        ShadowFile closed = Help.closed();
        Check.fails("a closed file", closed, Check.STATE, () -> closed.writeChanges(0));
    }

    private static void writeRecords() {
        Check.sentence(16, "Writes all records of the present version to the output likewise, as"
                + " entries for new values.");
        ShadowFile file = Help.with("63=-9999,0=0,10=5,9=-70");
        file.begin();
        file.put(0, 1, 1);
        file.writeRecords();
        Check.text("the records", Help.output(file), "0=0,9=-70,10=5,63=-9999");
        Help.commit(file, "-0,-9,-63");
        file.writeRecords();
        Check.text("in place of them", Help.output(file), "10=5");
        Help.commit(file, "-10");
        file.writeRecords();
        Check.text("no records", Help.output(file), "");

        Check.sentence(16, "Returns the length of the output.");
        Check.same("no records", file.writeRecords(), 0);
        Check.same("one record", Help.with("1=-2").writeRecords(), 4);
        ShadowFile full = Help.full();
        int due = full.writeRecords();
        Check.same("64 records", due, Help.output(full).length());
        Check.yes("from the first", Help.output(full).startsWith("0=-3000,1=-2900,"));
        Check.yes("to the last", Help.output(full).endsWith(",62=3200,63=3300"));

        Check.sentence(16, "Throws IllegalStateException if the file is closed");
        file.writeChanges(0);
        file.ready(0);
        file.commit(1);
        Check.fails("a closed file", file, Check.STATE, file::writeRecords);
        Check.text("the output stays", Help.output(file), "1=1");
    }

    private static void outputAt() {
        Check.sentence(17, "index: the index, from 0");
        ShadowFile one = Help.with("7=1");
        one.writeRecords();
        Check.same("index 0", one.outputAt(0), '7');
        Check.same("index 2", one.outputAt(2), '1');

        Check.sentence(17, "Returns a character of the output.");
        ShadowFile file = Help.with("10=-5,9=1");
        file.writeRecords();
        String due = "9=1,10=-5";
        for (int index = 0; index < due.length(); index++) {
            Check.same("character " + index, file.outputAt(index), due.charAt(index));
        }

        Check.sentence(17, "Returns the character.");
        Check.same("the first", file.outputAt(0), '9');
        Check.same("the last", file.outputAt(8), '5');
        Check.same("a minus sign", file.outputAt(7), '-');

        Check.sentence(17, "Throws IndexOutOfBoundsException if there is no such index");
        for (int index : Help.outside(0, 8)) {
            Check.fails("index " + index, file, Check.INDEX, () -> file.outputAt(index));
        }
        file.begin();
        file.writeChanges(0);
        Check.fails("index 0 of an empty output", file, Check.INDEX, () -> file.outputAt(0));
        ShadowFile fresh = new ShadowFile();
        Check.fails("index 0 of a new file", fresh, Check.INDEX, () -> fresh.outputAt(0));
    }
}
