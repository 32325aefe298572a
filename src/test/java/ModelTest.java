import java.util.ArrayList;
import java.util.List;

/** Runs of calls on new objects, each answer compared with that of the model. */
public final class ModelTest {
    private static final int RUNS = 6000;
    private static final int CALLS = 512;
    private static final int[] EDGES = {
        Integer.MIN_VALUE, -10000, -9999, -2, -1, 0, 1, 2, 3, 7, 8, 12, 13, 31, 32, 63, 64, 9999,
        10000, 999999, 1000000, Integer.MAX_VALUE,
    };
    private static final String[] READERS = {
        "get 2", "changes 1", "slotState 1", "writeChanges 1", "writeRecords 0", "outputAt 1",
        "blocksToWrite 0", "isOpen 0", "commitNumber 0", "size 0", "value 1", "keyAt 1", "sum 2",
        "pageBlock 1", "freeCount 0", "freeBlock 1", "wrongBlock 0", "logSize 0", "logged 2",
        "statistic 1", "pinnedValue 2", "pinnedCommit 1", "differences 1", "differentKey 2",
        "cell 2", "checksum 1", "isValid 1", "salvaged 2",
    };
    private static final String[] TEXTS = {
        "1=2", "5=-0", "-3", "0=1,1=1,2=1,3=1,4=1,5=1,6=1,7=1", "-9,9=9,63=-9999", "64=1", "1=1,",
        "-0,-1,-2,-3,-4,-5,-6,-7", "12=34,-12,x", "1=12345", "=", "07=0007,-08,99=1",
        "8=8,16=16,24=24,32=32,40=40,48=48,56=56,-0", "", "-64", "1=1,-64,2=2,-65",
    };

    private final ShadowFile file = new ShadowFile();
    private final Model model = new Model();
    private final List<String> calls = new ArrayList<>();
    private final int run;
    private final int style;
    private long seed;

    private ModelTest(int run) {
        this.run = run;
        this.style = run % 4;
        this.seed = run * 7919L + 17;
    }

    public static void main(String[] args) {
        int runs = args.length > 0 ? Integer.parseInt(args[0]) : RUNS;
        for (int run = 0; run < runs; run++) {
            new ModelTest(run).compareAll();
        }
        Check.end("ModelTest");
    }

    private int any(int bound) {
        seed = seed * 6364136223846793005L + 1442695040888963407L;
        return (int) ((seed >>> 33) % bound);
    }

    private void compareAll() {
        while (calls.size() < CALLS) {
            step();
        }
    }

    private void step() {
        int choice = any(100);
        if (style == 3 && any(3) == 0) {
            wild();
        } else if (choice < 30) {
            change();
        } else if (choice < 38) {
            text();
        } else if (choice < 52) {
            commit();
        } else if (choice < 60) {
            pins();
        } else if (choice < 66) {
            salvage();
        } else if (choice < 72 && style != 0) {
            harm();
        } else if (choice < 75 && (style == 2 || !file.isOpen())) {
            compare("reopen");
        } else if (choice == 75 && any(4) == 0) {
            compare("format");
        } else if (!file.isOpen() && any(2) == 0) {
            compare(any(4) == 0 ? "format" : "reopen");
        } else {
            look();
        }
    }

    private void change() {
        int slot = any(3);
        switch (any(8)) {
            case 0: compare("begin"); break;
            case 1: compare("remove", slot, any(16)); break;
            case 2: compare("mark", slot); break;
            case 3: compare("goBack", slot); break;
            case 4: compare("put", slot, any(64), any(19999) - 9999); break;
            case 5: compare(any(4) == 0 ? "abandon" : "begin", slot); break;
            default: compare("put", slot, any(16), any(5)); break;
        }
    }

    private void text() {
        String text = TEXTS[any(TEXTS.length)];
        for (int i = 0; i < text.length(); i++) {
            compare("feed", any(60) == 0 ? any(128) : text.charAt(i));
        }
        if (any(8) == 0) {
            compare("feed", any(65536));
        }
        compare("readChanges", any(3));
    }

    private void commit() {
        if (any(4) == 0) {
            compare("begin");
        }
        compare("ready", any(3));
        compare("blocksToWrite");
        if (any(2) == 0) {
            boolean fails = any(style == 1 ? 3 : 8) == 0;
            compare("commit", fails ? any(11) : -1);
            compare("wrongBlock");
        }
    }

    private void pins() {
        switch (any(4)) {
            case 0: compare("pin"); break;
            case 1: compare("unpin", any(2)); break;
            case 2: compare("differences", any(2)); break;
            default: compare("differentKey", any(2), any(4)); break;
        }
    }

    private void salvage() {
        if (any(3) == 0) {
            compare("salvage");
        }
        compare("salvaged", any(6), any(4));
        if (any(3) == 0) {
            compare("adopt", any(3));
        }
    }

    /** Mostly gives the block its right checksum again, so that reopen and salvage look further. */
    private void harm() {
        int block = file.isOpen() && any(2) == 0 ? file.pageBlock(any(8)) : any(12);
        block = block < 0 ? any(3) : block;
        int cell = any(13);
        int near = file.cell(block, cell) + any(3) - 1;
        compare("damage", block, cell, any(3) == 0 ? EDGES[any(EDGES.length)] : near);
        if (any(4) != 0) {
            compare("damage", block, 12, file.checksum(block));
        }
        if (any(3) == 0) {
            compare("reopen");
        }
        if (any(20) == 0) {
            greatNumber();
        }
    }

    /** Gives the present root and its table a commit number near the greatest one. */
    private void greatNumber() {
        int root = any(2);
        int table = file.cell(root, 2);
        if (table < 2 || table > 31) {
            return;
        }
        int number = 999997 + any(4);
        compare("damage", root, 1, number);
        compare("damage", table, 1, number);
        compare("damage", root, 12, file.checksum(root));
        compare("damage", table, 12, file.checksum(table));
        compare("reopen");
    }

    private void look() {
        String[] reader = READERS[any(READERS.length)].split(" ");
        int[] numbers = new int[Integer.parseInt(reader[1])];
        for (int i = 0; i < numbers.length; i++) {
            numbers[i] = any(any(2) == 0 ? 4 : 66) - (any(20) == 0 ? 1 : 0);
        }
        compare(reader[0], numbers);
    }

    /** Any method with any arguments. */
    private void wild() {
        String[] names = {
            "put 3", "remove 2", "mark 1", "goBack 1", "ready 1", "abandon 1", "readChanges 1",
            "commit 1", "unpin 1", "damage 3", "adopt 1", "pin 0", "begin 0", "salvage 0",
        };
        int choice = any(names.length + READERS.length);
        String[] name = (choice < names.length ? names[choice] : READERS[choice - names.length])
                .split(" ");
        int[] numbers = new int[Integer.parseInt(name[1])];
        for (int i = 0; i < numbers.length; i++) {
            numbers[i] = any(2) == 0 ? EDGES[any(EDGES.length)] : any(4);
        }
        compare(name[0], numbers);
    }

    private interface Answer {
        Object of();
    }

    private static String answerOf(Answer answer) {
        try {
            return answer.of().toString();
        } catch (RuntimeException thrown) {
            return "throws." + thrown.getClass().getSimpleName();
        }
    }

    private void compare(String name, int... numbers) {
        calls.add(name);
        String due = answerOf(() -> model.call(name, numbers));
        String got = answerOf(() -> callFile(name, numbers));
        StringBuilder what = new StringBuilder();
        what.append("run ").append(run).append(", call ").append(calls.size()).append(": ");
        what.append(name).append(java.util.Arrays.toString(numbers));
        Check.text(what.toString(), got, due);
    }

    private Object callFile(String name, int[] a) {
        switch (name) {
            case "format": return file.format();
            case "begin": return file.begin();
            case "put": return file.put(a[0], a[1], a[2]);
            case "remove": return file.remove(a[0], a[1]);
            case "get": return file.get(a[0], a[1]);
            case "changes": return file.changes(a[0]);
            case "slotState": return file.slotState(a[0]);
            case "mark": return file.mark(a[0]);
            case "goBack": return file.goBack(a[0]);
            case "ready": return file.ready(a[0]);
            case "abandon": return file.abandon(a[0]);
            case "feed": return file.feed((char) a[0]);
            case "readChanges": return file.readChanges(a[0]);
            case "writeChanges": return file.writeChanges(a[0]);
            case "writeRecords": return file.writeRecords();
            case "outputAt": return (int) file.outputAt(a[0]);
            case "blocksToWrite": return file.blocksToWrite();
            case "commit": return file.commit(a[0]);
            case "reopen": return file.reopen();
            case "isOpen": return file.isOpen();
            case "commitNumber": return file.commitNumber();
            case "size": return file.size();
            case "value": return file.value(a[0]);
            case "keyAt": return file.keyAt(a[0]);
            case "sum": return file.sum(a[0], a[1]);
            case "pageBlock": return file.pageBlock(a[0]);
            case "freeCount": return file.freeCount();
            case "freeBlock": return file.freeBlock(a[0]);
            case "wrongBlock": return file.wrongBlock();
            case "logSize": return file.logSize();
            case "logged": return file.logged(a[0], a[1]);
            case "statistic": return file.statistic(a[0]);
            case "pin": return file.pin();
            case "pinnedValue": return file.pinnedValue(a[0], a[1]);
            case "pinnedCommit": return file.pinnedCommit(a[0]);
            case "unpin": return file.unpin(a[0]);
            case "differences": return file.differences(a[0]);
            case "differentKey": return file.differentKey(a[0], a[1]);
            case "cell": return file.cell(a[0], a[1]);
            case "damage": return file.damage(a[0], a[1], a[2]);
            case "checksum": return file.checksum(a[0]);
            case "isValid": return file.isValid(a[0]);
            case "salvage": return file.salvage();
            case "salvaged": return file.salvaged(a[0], a[1]);
            case "adopt": return file.adopt(a[0]);
            default: throw new AssertionError(name);
        }
    }
}
