import java.util.ArrayList;
import java.util.LinkedHashMap;
import java.util.List;
import java.util.Map;
import java.util.NoSuchElementException;
import java.util.Optional;
import java.util.TreeMap;
import java.util.TreeSet;
import java.util.regex.Matcher;
import java.util.regex.Pattern;

/**
 * The document once more, with the collections of the Java library: a second opinion, written
 * without a look at how the class holds its state.
 */
final class Model {
    private static final String ENTRY = "(?:[0-9]{1,2}=-?[0-9]{1,4}|-[0-9]{1,2})";
    private static final Pattern WHOLE = Pattern.compile(ENTRY + "(?:," + ENTRY + ")*");
    private static final Pattern PART =
            Pattern.compile("(?:([0-9]{1,2})=(-?[0-9]{1,4})|-([0-9]{1,2}))(?:,|$)");
    private static final String[] ENDINGS = {"", "0", "=0", "0=0"};

    private static final class Version {
        int number;
        int root;
        int table;
        int[] pages = {-1, -1, -1, -1, -1, -1, -1, -1};
        TreeMap<Integer, Integer> records = new TreeMap<>();

        Version copy() {
            Version other = new Version();
            other.number = number;
            other.root = root;
            other.table = table;
            other.pages = pages.clone();
            other.records = new TreeMap<>(records);
            return other;
        }

        TreeSet<Integer> blocks() {
            TreeSet<Integer> used = new TreeSet<>();
            used.add(table);
            for (int block : pages) {
                if (block != -1) {
                    used.add(block);
                }
            }
            return used;
        }
    }

    private static final class Slot {
        int state = 0;
        TreeMap<Integer, Optional<Integer>> changes = new TreeMap<>();
        List<TreeMap<Integer, Optional<Integer>>> marks = new ArrayList<>();
    }

    private final int[][] disk = new int[32][13];
    private Version present = null;
    private Slot[] slots = {new Slot(), new Slot(), new Slot()};
    private List<Slot> readySlots = new ArrayList<>();
    private Version[] pins = new Version[2];
    private String input = "";
    private String output = "";
    private final List<int[]> log = new ArrayList<>();
    private final int[] statistics = new int[8];
    private TreeMap<Integer, int[]> found = new TreeMap<>();

    Model() {
        format();
    }

    private int format() {
        int before = present == null ? -1 : present.number;
        close();
        for (int[] block : disk) {
            java.util.Arrays.fill(block, 0);
        }
        present = new Version();
        present.table = 2;
        write(2, tableOf(present), 13);
        write(0, rootOf(present), 13);
        return before;
    }

    private void close() {
        present = null;
        slots = new Slot[] {new Slot(), new Slot(), new Slot()};
        readySlots = new ArrayList<>();
        pins = new Version[2];
    }

    private int sumOf(int block) {
        int h = block + 17;
        for (int cell = 0; cell <= 11; cell++) {
            h = 31 * h + disk[block][cell];
        }
        return h;
    }

    private boolean valid(int block) {
        return disk[block][12] == sumOf(block);
    }

    private void write(int block, int[] content, int cells) {
        for (int cell = 0; cell < cells && cell < 12; cell++) {
            disk[block][cell] = content[cell];
        }
        if (cells == 13) {
            disk[block][12] = sumOf(block);
        }
    }

    private static int[] rootOf(Version version) {
        return new int[] {1, version.number, version.table, 0, 0, 0, 0, 0, 0, 0, 0, 0};
    }

    private static int[] tableOf(Version version) {
        int[] p = version.pages;
        return new int[] {2, version.number, 0, 0, p[0], p[1], p[2], p[3], p[4], p[5], p[6], p[7]};
    }

    private static int[] pageOf(Version version, int page) {
        int[] cells = new int[12];
        cells[0] = 3;
        cells[1] = version.number;
        cells[2] = page;
        for (Map.Entry<Integer, Integer> record : version.records.entrySet()) {
            if (record.getKey() % 8 == page) {
                cells[3] += 1 << record.getKey() / 8;
                cells[4 + record.getKey() / 8] = record.getValue();
            }
        }
        return cells;
    }

    private static void index(boolean right) {
        if (!right) {
            throw new IndexOutOfBoundsException();
        }
    }

    private static void argument(boolean right) {
        if (!right) {
            throw new IllegalArgumentException();
        }
    }

    private static void state(boolean right) {
        if (!right) {
            throw new IllegalStateException();
        }
    }

    private static void element(boolean right) {
        if (!right) {
            throw new NoSuchElementException();
        }
    }

    private Slot slot(int number) {
        index(number >= 0 && number <= 2);
        return slots[number];
    }

    private Slot active(int number) {
        Slot slot = slot(number);
        state(slot.state == 1);
        return slot;
    }

    private Optional<Integer> seen(Slot slot, int key) {
        return slot.changes.containsKey(key) ? slot.changes.get(key)
                : Optional.ofNullable(present.records.get(key));
    }

    private Version open() {
        state(present != null);
        return present;
    }

    private List<Integer> free() {
        List<Integer> free = new ArrayList<>();
        for (int block = 2; block <= 31; block++) {
            boolean used = present.blocks().contains(block);
            for (Version pin : pins) {
                used |= pin != null && pin.blocks().contains(block);
            }
            if (!used) {
                free.add(block);
            }
        }
        return free;
    }

    private static int nth(Iterable<Integer> numbers, int index) {
        int place = 0;
        for (int number : numbers) {
            if (place++ == index) {
                return number;
            }
        }
        throw new IndexOutOfBoundsException();
    }

    Object call(String name, int[] a) {
        switch (name) {
            case "format": return format();
            case "begin": return begin();
            case "put": return put(a[0], a[1], a[2]);
            case "remove": return remove(a[0], a[1]);
            case "get": return get(a[0], a[1]);
            case "changes": return slot(a[0]).changes.size();
            case "slotState": return slot(a[0]).state;
            case "mark": return mark(a[0]);
            case "goBack": return goBack(a[0]);
            case "ready": return ready(a[0]);
            case "abandon": return abandon(a[0]);
            case "feed": return feed((char) a[0]);
            case "readChanges": return readChanges(a[0]);
            case "writeChanges": return writeChanges(a[0]);
            case "writeRecords": return writeRecords();
            case "outputAt": return outputAt(a[0]);
            case "blocksToWrite": return blocksToWrite();
            case "commit": return commit(a[0]);
            case "reopen": return reopen();
            case "isOpen": return present != null;
            case "commitNumber": return open().number;
            case "size": return open().records.size();
            case "value": return value(a[0]);
            case "keyAt": return nth(open().records.keySet(), a[0]);
            case "sum": return sum(a[0], a[1]);
            case "pageBlock": return pageBlock(a[0]);
            case "freeCount": open(); return free().size();
            case "freeBlock": open(); return nth(free(), a[0]);
            case "wrongBlock": return wrongBlock();
            case "logSize": return log.size();
            case "logged": return logged(a[0], a[1]);
            case "statistic": return statistic(a[0]);
            case "pin": return pin();
            case "pinnedValue": return pinnedValue(a[0], a[1]);
            case "pinnedCommit": return pinned(a[0]).number;
            case "unpin": return unpin(a[0]);
            case "differences": return differences(pinned(a[0])).size();
            case "differentKey": return differentKey(a[0], a[1]);
            case "cell": return cell(a[0], a[1]);
            case "damage": return damage(a[0], a[1], a[2]);
            case "checksum": index(a[0] >= 0 && a[0] < 32); return sumOf(a[0]);
            case "isValid": index(a[0] >= 0 && a[0] < 32); return valid(a[0]);
            case "salvage": return salvage();
            case "salvaged": return salvaged(a[0], a[1]);
            case "adopt": return adopt(a[0]);
            default: throw new AssertionError(name);
        }
    }

    private int begin() {
        open();
        for (int i = 0; i < 3; i++) {
            if (slots[i].state == 0) {
                slots[i] = new Slot();
                slots[i].state = 1;
                return i;
            }
        }
        throw new IllegalStateException();
    }

    private boolean put(int number, int key, int value) {
        slot(number);
        argument(key >= 0 && key <= 63 && value >= -9999 && value <= 9999);
        Optional<Integer> before = seen(active(number), key);
        active(number).changes.put(key, Optional.of(value));
        return before.isPresent();
    }

    private int remove(int number, int key) {
        slot(number);
        argument(key >= 0 && key <= 63);
        Optional<Integer> before = seen(active(number), key);
        element(before.isPresent());
        active(number).changes.put(key, Optional.empty());
        return before.get();
    }

    private int get(int number, int key) {
        Slot slot = slot(number);
        argument(key >= 0 && key <= 63);
        state(slot.state != 0);
        element(seen(slot, key).isPresent());
        return seen(slot, key).get();
    }

    private int mark(int number) {
        Slot slot = active(number);
        state(slot.marks.size() < 3);
        slot.marks.add(new TreeMap<>(slot.changes));
        return slot.marks.size();
    }

    private int goBack(int number) {
        Slot slot = active(number);
        element(!slot.marks.isEmpty());
        slot.changes = slot.marks.remove(slot.marks.size() - 1);
        return slot.changes.size();
    }

    private int ready(int number) {
        Slot slot = active(number);
        slot.state = 2;
        slot.marks.clear();
        readySlots.add(slot);
        return readySlots.size();
    }

    private int abandon(int number) {
        Slot slot = slot(number);
        state(slot.state != 0);
        readySlots.remove(slot);
        slots[number] = new Slot();
        return slot.changes.size();
    }

    private int feed(char character) {
        state(input.length() < 60);
        input += character;
        return input.length();
    }

    private static boolean canContinue(String start) {
        for (String ending : ENDINGS) {
            if (WHOLE.matcher(start + ending).matches()) {
                return true;
            }
        }
        return false;
    }

    private int readChanges(int number) {
        String text = input;
        input = "";
        Slot slot = active(number);
        for (int length = 1; length <= text.length(); length++) {
            if (!canContinue(text.substring(0, length))) {
                return -100 - (length - 1);
            }
        }
        if (!WHOLE.matcher(text).matches()) {
            return -100 - text.length();
        }
        Map<Integer, Optional<Integer>> read = new LinkedHashMap<>();
        int entries = 0;
        Matcher part = PART.matcher(text);
        while (part.find()) {
            int group = part.group(1) != null ? 1 : 3;
            int key = Integer.parseInt(part.group(group));
            if (key > 63) {
                return -100 - part.start(group);
            }
            read.put(key, group == 3 ? Optional.empty()
                    : Optional.of(Integer.parseInt(part.group(2))));
            entries++;
        }
        slot.changes.putAll(read);
        return entries;
    }

    private int writeChanges(int number) {
        Slot slot = slot(number);
        state(slot.state != 0);
        List<String> entries = new ArrayList<>();
        slot.changes.forEach((key, value) ->
                entries.add(value.isPresent() ? key + "=" + value.get() : "-" + key));
        output = String.join(",", entries);
        return output.length();
    }

    private int writeRecords() {
        List<String> entries = new ArrayList<>();
        open().records.forEach((key, value) -> entries.add(key + "=" + value));
        output = String.join(",", entries);
        return output.length();
    }

    private int outputAt(int place) {
        index(place >= 0 && place < output.length());
        return output.charAt(place);
    }

    /** The next version, with the number of a page that is to be written as -2. */
    private Version combine(TreeSet<Integer> affected) {
        Version next = present.copy();
        next.number++;
        next.root = next.number % 2;
        for (Slot slot : readySlots) {
            slot.changes.forEach((key, value) -> {
                affected.add(key % 8);
                if (value.isPresent()) {
                    next.records.put(key, value.get());
                } else {
                    next.records.remove(key);
                }
            });
        }
        for (int page : affected) {
            next.pages[page] = -1;
            for (int key : next.records.keySet()) {
                if (key % 8 == page) {
                    next.pages[page] = -2;
                }
            }
        }
        return next;
    }

    private int blocksToWrite() {
        if (readySlots.isEmpty()) {
            return 0;
        }
        int blocks = 2;
        for (int page : combine(new TreeSet<>()).pages) {
            blocks += page == -2 ? 1 : 0;
        }
        return blocks;
    }

    private int commit(int blocks) {
        argument(blocks >= -1);
        state(!readySlots.isEmpty());
        TreeSet<Integer> affected = new TreeSet<>();
        Version next = combine(affected);
        List<Integer> free = free();
        if (blocksToWrite() - 1 > free.size() || present.number == 999999) {
            throw new UnsupportedOperationException();
        }
        List<Integer> places = new ArrayList<>();
        List<int[]> contents = new ArrayList<>();
        for (int page = 0; page < 8; page++) {
            if (next.pages[page] == -2) {
                next.pages[page] = free.remove(0);
                places.add(next.pages[page]);
                contents.add(pageOf(next, page));
            }
        }
        next.table = free.remove(0);
        places.add(next.table);
        contents.add(tableOf(next));
        places.add(next.root);
        contents.add(rootOf(next));
        boolean fails = blocks != -1 && places.size() > blocks;
        int whole = fails ? blocks : places.size();
        for (int i = 0; i < whole; i++) {
            write(places.get(i), contents.get(i), 13);
        }
        if (fails) {
            write(places.get(whole), contents.get(whole), 6);
            statistics[3]++;
        }
        statistics[fails ? 1 : 0]++;
        statistics[2] += whole;
        int answer = fails ? -1 : next.number;
        log.add(0, new int[] {answer, readySlots.size(), affected.size(), whole});
        if (log.size() > 8) {
            log.remove(8);
        }
        if (fails) {
            close();
        } else {
            present = next;
            for (int i = 0; i < 3; i++) {
                if (slots[i].state == 2) {
                    slots[i] = new Slot();
                }
            }
            readySlots.clear();
        }
        return answer;
    }

    private Version read(int root) {
        int[] cells = disk[root];
        if (!valid(root) || cells[0] != 1 || cells[1] < 0 || cells[1] > 999999) {
            return null;
        }
        int table = cells[2];
        if (table < 2 || table > 31 || !valid(table) || disk[table][0] != 2
                || disk[table][1] != cells[1]) {
            return null;
        }
        Version version = new Version();
        version.number = cells[1];
        version.root = root;
        version.table = table;
        for (int page = 0; page < 8; page++) {
            int block = disk[table][4 + page];
            version.pages[page] = block;
            if (block == -1) {
                continue;
            }
            if (block < 2 || block > 31 || !valid(block) || disk[block][0] != 3
                    || disk[block][2] != page) {
                return null;
            }
            for (int bit = 0; bit < 8; bit++) {
                if ((disk[block][3] & 1 << bit) != 0) {
                    version.records.put(page + 8 * bit, disk[block][4 + bit]);
                }
            }
        }
        return version;
    }

    private int reopen() {
        close();
        Version first = read(0);
        Version second = read(1);
        if (first == null && second == null) {
            statistics[5]++;
            throw new IllegalStateException();
        }
        boolean isSecond = first == null || second != null && second.number > first.number;
        present = isSecond ? second : first;
        statistics[4]++;
        return present.number;
    }

    private int value(int key) {
        open();
        argument(key >= 0 && key <= 63);
        element(present.records.containsKey(key));
        return present.records.get(key);
    }

    private int sum(int low, int high) {
        open();
        argument(low >= 0 && high <= 63 && low <= high);
        int sum = 0;
        for (int value : present.records.subMap(low, true, high, true).values()) {
            sum += value;
        }
        return sum;
    }

    private int pageBlock(int page) {
        open();
        index(page >= 0 && page <= 7);
        return present.pages[page];
    }

    private int wrongBlock() {
        open();
        TreeSet<Integer> wrong = new TreeSet<>();
        int[] root = disk[present.root];
        if (!valid(present.root) || root[0] != 1 || root[1] != present.number
                || root[2] != present.table) {
            wrong.add(present.root);
        }
        int[] table = disk[present.table];
        if (!valid(present.table) || table[0] != 2) {
            wrong.add(present.table);
        }
        for (int page = 0; page < 8; page++) {
            int block = present.pages[page];
            if (table[4 + page] != block) {
                wrong.add(present.table);
            }
            if (block == -1) {
                continue;
            }
            int[] due = pageOf(present, page);
            if (!valid(block) || disk[block][0] != 3 || disk[block][2] != page
                    || (disk[block][3] & 255) != due[3]) {
                wrong.add(block);
            }
            for (int bit = 0; bit < 8; bit++) {
                if ((due[3] & 1 << bit) != 0 && disk[block][4 + bit] != due[4 + bit]) {
                    wrong.add(block);
                }
            }
        }
        return wrong.isEmpty() ? -1 : wrong.first();
    }

    private int logged(int place, int what) {
        index(place >= 0 && place < log.size());
        argument(what >= 0 && what <= 3);
        return log.get(place)[what];
    }

    private int statistic(int what) {
        argument(what >= 0 && what <= 7);
        return statistics[what];
    }

    private int pin() {
        open();
        for (int i = 0; i < 2; i++) {
            if (pins[i] == null) {
                pins[i] = present.copy();
                return i;
            }
        }
        throw new IllegalStateException();
    }

    private Version pinned(int pin) {
        index(pin == 0 || pin == 1);
        state(pins[pin] != null);
        return pins[pin];
    }

    private int pinnedValue(int pin, int key) {
        index(pin == 0 || pin == 1);
        argument(key >= 0 && key <= 63);
        element(pinned(pin).records.containsKey(key));
        return pins[pin].records.get(key);
    }

    private int unpin(int pin) {
        pinned(pin);
        int before = free().size();
        pins[pin] = null;
        return free().size() - before;
    }

    private List<Integer> differences(Version pin) {
        List<Integer> keys = new ArrayList<>();
        for (int key = 0; key <= 63; key++) {
            Optional<Integer> then = Optional.ofNullable(pin.records.get(key));
            if (!then.equals(Optional.ofNullable(present.records.get(key)))) {
                keys.add(key);
            }
        }
        return keys;
    }

    private int differentKey(int pin, int place) {
        List<Integer> keys = differences(pinned(pin));
        element(place >= 0 && place < keys.size());
        return keys.get(place);
    }

    private int cell(int block, int cell) {
        index(block >= 0 && block <= 31 && cell >= 0 && cell <= 12);
        return disk[block][cell];
    }

    private int damage(int block, int cell, int content) {
        int before = cell(block, cell);
        disk[block][cell] = content;
        statistics[7] += before == content ? 0 : 1;
        return before;
    }

    private int salvage() {
        found = new TreeMap<>();
        for (int block = 31; block >= 2; block--) {
            int[] cells = disk[block];
            if (!valid(block) || cells[0] != 3 || cells[2] < 0 || cells[2] > 7) {
                continue;
            }
            for (int bit = 0; bit < 8; bit++) {
                int key = cells[2] + 8 * bit;
                if ((cells[3] & 1 << bit) != 0
                        && (!found.containsKey(key) || found.get(key)[2] <= cells[1])) {
                    found.put(key, new int[] {key, cells[4 + bit], cells[1], block});
                }
            }
        }
        statistics[6] += found.size();
        return found.size();
    }

    private int salvaged(int place, int what) {
        index(place >= 0 && place < found.size());
        argument(what >= 0 && what <= 3);
        return new ArrayList<>(found.values()).get(place)[what];
    }

    private int adopt(int number) {
        Slot slot = active(number);
        found.forEach((key, record) -> slot.changes.put(key, Optional.of(record[1])));
        return found.size();
    }
}
