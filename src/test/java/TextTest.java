/** Promises 13 to 17: the input and the output. */
public final class TextTest {
    private TextTest() {
    }

    public static void main(String[] args) {
        feed();
        readForms();
        readEffects();
        readErrors();
        readGreatKeys();
        readEmptiesTheInput();
        writeChanges();
        writeRecords();
        writeGreatValues();
        outputAt();
        Check.end("TextTest");
    }

    private static void feed() {
        Check.promise(13);
        ShadowFile file = new ShadowFile();
        for (int length = 1; length <= 60; length++) {
            Check.same("feed", file.feed((char) (length * 1000)), length);
        }
        Check.fails("feed of a full input", file, Check.STATE, () -> file.feed('1'));
        file.begin();
        Check.same("the first sign is none of an entry", file.readChanges(0), -100);
        Check.same("feed of an empty input", file.feed('1'), 1);
        Help.makeReady(file, "=1");
        file.commit(0);
        Check.same("feed of a closed file", file.feed('1'), 1);
    }

    /** Answers what readChanges answers in a new file, and its changes behind a space. */
    private static String read(String text) {
        ShadowFile file = new ShadowFile();
        file.begin();
        Help.feed(file, text);
        int answer = file.readChanges(0);
        file.writeChanges(0);
        return answer + " " + Help.output(file);
    }

    private static void readForms() {
        Check.promise(14);
        Check.text("a value", read("1=2"), "1 1=2");
        Check.text("leading zeros", read("01=0002"), "1 1=2");
        Check.text("a negative value", read("63=-9999"), "1 63=-9999");
        Check.text("minus zero", read("0=-0"), "1 0=0");
        Check.text("minus zeros", read("00=-0000"), "1 0=0");
        Check.text("leading zeros behind a minus", read("9=-0012"), "1 9=-12");
        Check.text("a removal", read("-5"), "1 -5");
        Check.text("a removal with two digits", read("-05"), "1 -5");
        Check.text("a removal of key 0", read("-0"), "1 -0");
        Check.text("entries", read("63=1,-62,5=-7,00=9999"), "4 0=9999,5=-7,-62,63=1");
        Check.text("a key twice", read("1=2,1=3"), "2 1=3");
        Check.text("a key and its removal", read("1=2,-1"), "2 -1");
        Check.text("a removal and its key", read("-1,1=2"), "2 1=2");
        Check.text("20 entries", read("-1,-2,-3,-4,-5,-6,-7,-8,-9,-0,-1,-2,-3,-4,-5,-6,-7,-8,-9,-0"),
                "20 -0,-1,-2,-3,-4,-5,-6,-7,-8,-9");
        Check.text("60 signs", read("1=1,2=2,3=3,4=4,5=5,6=6,7=7,8=8,9=9,1=10,1=11,1=12,1=13,1=14"),
                "14 1=14,2=2,3=3,4=4,5=5,6=6,7=7,8=8,9=9");
    }

    private static void readEffects() {
        Check.promise(14);
        ShadowFile file = new ShadowFile();
        Help.commit(file, "1=5");
        file.begin();
        file.put(0, 2, 2);
        file.put(0, 3, 3);
        Help.feed(file, "-1,3=4,-50");
        Check.same("readChanges", file.readChanges(0), 3);
        Check.same("earlier changes stay", file.get(0, 2), 2);
        Check.same("a new value", file.get(0, 3), 4);
        Check.failsOnly("a removal", Check.MISSING, () -> file.get(0, 1));
        Check.same("a removal of no record is a change", file.changes(0), 4);
        file.ready(0);
        file.commit(-1);
        Check.text("records", Help.records(file), "2=2,3=4");
        Check.same("its page is affected", file.logged(0, 2), 3);
    }

    private static void readErrors() {
        Check.promise(14);
        String[][] errors = {
            {"", "0"}, {"1", "1"}, {"12", "2"}, {"123", "2"}, {"1=", "2"}, {"1=-", "3"},
            {"1=-,", "3"}, {"1=--", "3"}, {"1=12345", "6"}, {"1=-12345", "7"}, {"1=1,", "4"},
            {"1=1,,", "4"}, {",", "0"}, {"=", "0"}, {"-", "1"}, {"--", "1"}, {"-1,", "3"},
            {"-1=", "2"}, {"-12=", "3"}, {"-123", "3"}, {"1,", "1"}, {"12,", "2"}, {"1-", "1"},
            {" 1=1", "0"}, {"1 =1", "1"}, {"1= 1", "2"}, {"1=1 ", "3"}, {"1=1, 2=2", "4"},
            {"a", "0"}, {"1=a", "2"}, {"1=1=", "3"}, {"1=1-", "3"}, {"1=+1", "2"}, {"/=1", "0"},
            {":=1", "0"}, {"1=/", "2"}, {"1=:", "2"}, {"1=1234,", "7"}, {"1=1,2", "5"},
            {"1=1,2=", "6"}, {"1=1,-", "5"}, {"1=1\n", "3"}, {"-=", "1"}, {"-,", "1"},
            {(char) 0x661 + "=1", "0"}, {"1=" + (char) 0xff11, "2"}, {"" + (char) 0, "0"},
            {"1=1234" + (char) 0xffff, "6"}, {"1=-1234" + (char) ('0' + 256), "7"},
        };
        for (String[] error : errors) {
            Check.text("readChanges of \"" + error[0] + "\"", read(error[0]),
                    -100 - Integer.parseInt(error[1]) + " ");
        }
        String full = "1=1,2=2,3=3,4=4,5=5,6=6,7=7,8=8,9=9,1=1,1=1,1=1,1=1,1=1,1=1,";
        Check.same("a full input", full.length(), 60);
        Check.text("a full input", read(full), "-160 ");
    }

    private static void readGreatKeys() {
        Check.promise(14);
        Check.text("key 64", read("64=1"), "-100 ");
        Check.text("key 99 behind others", read("1=1,99=1,98=1"), "-104 ");
        Check.text("a removal of key 64", read("-64"), "-101 ");
        Check.text("a removal of key 64 behind others", read("-1,-64"), "-104 ");
        Check.text("an error of the form comes first", read("64=1,x"), "-105 ");
        Check.text("an early end comes first", read("64=1,"), "-105 ");
        Check.text("an early end comes first", read("70"), "-102 ");
        Check.text("key 63", read("63=64"), "1 63=64");
        ShadowFile file = new ShadowFile();
        file.begin();
        file.put(0, 5, 5);
        Help.feed(file, "1=1,-5,64=1");
        Check.same("nothing changes", file.readChanges(0), -107);
        Check.same("changes", file.changes(0), 1);
        Check.same("value", file.get(0, 5), 5);
    }

    private static void readEmptiesTheInput() {
        Check.promise(14);
        ShadowFile file = new ShadowFile();
        int[] slots = {-1, 3};
        for (int slot : slots) {
            Help.feed(file, "1=1");
            Check.fails("readChanges of " + slot, file, Check.INDEX, () -> file.readChanges(slot));
            Check.same("the input is empty behind it", file.feed('x'), 1);
            Check.failsOnly("an idle slot", Check.STATE, () -> file.readChanges(0));
            Check.same("the input is empty behind it", file.feed('x'), 1);
            Check.failsOnly("an idle slot", Check.STATE, () -> file.readChanges(0));
        }
        file.begin();
        Help.feed(file, "1=1");
        file.readChanges(0);
        Check.same("the input is empty behind a good one", file.feed('x'), 1);
        file.readChanges(0);
        Check.same("the input is empty behind a wrong one", file.feed('x'), 1);
        file.ready(0);
        Check.fails("a ready slot", file, Check.STATE, () -> file.readChanges(0));
        Check.same("the input is empty behind a ready slot", file.feed('x'), 1);
    }

    private static void writeChanges() {
        Check.promise(15);
        ShadowFile file = new ShadowFile();
        Help.commit(file, "1=5,2=6");
        file.begin();
        Check.same("no changes", file.writeChanges(0), 0);
        Check.text("no changes", Help.output(file), "");
        file.put(0, 63, -9999);
        file.put(0, 0, 0);
        file.remove(0, 1);
        file.put(0, 10, 1234);
        file.put(0, 9, -1);
        Check.same("changes", file.writeChanges(0), 28);
        Check.text("changes", Help.output(file), "0=0,-1,9=-1,10=1234,63=-9999");
        Check.same("changes again", file.writeChanges(0), 28);
        Check.text("in place of the output", Help.output(file), "0=0,-1,9=-1,10=1234,63=-9999");
        Check.same("changes can be read again", readAgain(file), 5);
    }

    private static int readAgain(ShadowFile file) {
        int slot = file.begin();
        Help.feed(file, Help.output(file));
        return file.readChanges(slot);
    }

    private static void writeRecords() {
        Check.promise(16);
        ShadowFile file = new ShadowFile();
        Check.same("no records", file.writeRecords(), 0);
        Help.commit(file, "10=-100,9=5,62=0");
        file.begin();
        file.put(0, 9, 6);
        Check.same("records", file.writeRecords(), 16);
        Check.text("records", Help.output(file), "9=5,10=-100,62=0");
        Check.same("records again", file.writeRecords(), 16);
        Check.text("in place of the output", Help.output(file), "9=5,10=-100,62=0");
        Check.promise(15);
        file.abandon(0);
        Check.fails("an idle slot", file, Check.STATE, () -> file.writeChanges(0));
        Check.fails("slot 3", file, Check.INDEX, () -> file.writeChanges(3));
        Check.fails("slot -1", file, Check.INDEX, () -> file.writeChanges(-1));
        Help.makeReady(file, "7=8");
        Check.same("a ready slot", file.writeChanges(0), 3);
        Check.text("a ready slot", Help.output(file), "7=8");
        file.commit(0);
        Check.promise(16);
        Check.fails("a closed file", file, Check.STATE, file::writeRecords);
        Check.text("the output stays", Help.output(file), "7=8");
    }

    /** A whole file of the longest values: all their digits are written. */
    private static void writeGreatValues() {
        Check.promise(16);
        ShadowFile file = new ShadowFile();
        StringBuilder due = new StringBuilder();
        for (int key = 0; key < 64; key++) {
            Help.commit(file, key + "=1");
            due.append(key == 0 ? "" : ",").append(key).append("=-2147483648");
        }
        for (int page = 0; page < 8; page++) {
            for (int bit = 0; bit < 8; bit++) {
                Help.change(file, file.pageBlock(page), 4 + bit, Integer.MIN_VALUE);
            }
        }
        file.reopen();
        Check.same("writeRecords", file.writeRecords(), due.length());
        Check.text("writeRecords", Help.output(file), due.toString());
        Check.promise(15);
        file.salvage();
        file.begin();
        file.adopt(0);
        Check.same("writeChanges", file.writeChanges(0), due.length());
        Check.text("writeChanges", Help.output(file), due.toString());
        Help.change(file, file.pageBlock(3), 4, Integer.MAX_VALUE);
        Help.change(file, file.pageBlock(4), 4, 1000000000);
        file.salvage();
        file.adopt(0);
        file.writeChanges(0);
        Check.yes("the greatest value", Help.output(file).contains(",3=2147483647,4=1000000000,5="));
    }

    private static void outputAt() {
        Check.promise(17);
        ShadowFile file = new ShadowFile();
        Check.fails("an empty output", file, Check.INDEX, () -> file.outputAt(0));
        Help.commit(file, "8=-3");
        file.writeRecords();
        Check.same("outputAt", file.outputAt(0), '8');
        Check.same("outputAt", file.outputAt(1), '=');
        Check.same("outputAt", file.outputAt(2), '-');
        Check.same("outputAt", file.outputAt(3), '3');
        Check.fails("outputAt 4", file, Check.INDEX, () -> file.outputAt(4));
        Check.fails("outputAt -1", file, Check.INDEX, () -> file.outputAt(-1));
        Check.fails("outputAt", file, Check.INDEX, () -> file.outputAt(Integer.MAX_VALUE));
        file.begin();
        file.writeChanges(0);
        Check.fails("outputAt 0 of an emptied output", file, Check.INDEX, () -> file.outputAt(0));
    }
}
