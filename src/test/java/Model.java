import java.util.ArrayList;
import java.util.HashMap;
import java.util.HashSet;
import java.util.List;
import java.util.Map;
import java.util.Set;
import java.util.TreeMap;

/**
 * The document once more, sentence by sentence and in another form than the class: what is so
 * stands in a map or a set, what is not so is absent. Nothing is shared with the class.
 */
final class Model {
    private record Row(boolean isLend, int item, int person) {
    }

    private final int mostRows;
    private final Map<Integer, Integer> codes = new HashMap<>();
    private final Map<Integer, Integer> languages = new HashMap<>();
    private final Map<Integer, Integer> wrongInARow = new HashMap<>();
    private final Set<Integer> blockedByTheHouse = new HashSet<>();
    private final Map<Integer, Integer> outWith = new HashMap<>();
    private final Map<Integer, Integer> reservedFor = new HashMap<>();
    private final Set<Integer> markIsOff = new HashSet<>();
    private final Map<Integer, Integer> itemInLocker = new TreeMap<>();
    private final List<Row> rows = new ArrayList<>();
    private List<Row> clashes = List.of();
    private List<Integer> receipt = new ArrayList<>();
    private Integer asked;
    private Integer opened;
    private Integer scanned;
    private boolean scannedIsDone;
    private boolean offline;

    Model(int offline) {
        mostRows = offline < 0 ? 0 : offline > 100 ? 100 : offline;
    }

    int answer(Step step) {
        int a = step.a();
        int b = step.b();
        switch (step.name()) {
            case "person": return person(a, b, step.c());
            case "block": return block(a, b == 1);
            case "reserve": return reserve(a, b);
            case "card": return card(a);
            case "code": return code(a);
            case "scan": return scan(a);
            case "twice": return twice();
            case "lend": return lend();
            case "back": return back(a);
            case "end": return end(a == 1);
            case "offline": return offline(a == 1);
            case "join": return join(a);
            case "clash": return clash(a, b);
            case "locker": return locker(a);
            case "open": return open(a, b);
            case "door": return isItem(a) && !markIsOff.contains(a) ? 1 : 0;
            case "receipt": return a >= 0 && a < receipt.size() ? receipt.get(a) : -1;
            case "screen": return screen();
            case "item": return item(a, b);
            case "rows": return rows.size();
            default: throw new IllegalStateException(step.name());
        }
    }

    private static boolean isPerson(int person) {
        return 0 <= person && person <= 39;
    }

    private static boolean isItem(int item) {
        return 0 <= item && item <= 59;
    }

    private boolean isBlockedByCodes(int person) {
        return wrongInARow.getOrDefault(person, 0) == 3;
    }

    private boolean isBlocked(int person) {
        return blockedByTheHouse.contains(person) || isBlockedByCodes(person);
    }

    private int person(int person, int code, int language) {
        if (isPerson(person) && 0 <= language && language <= 2) {
            codes.put(person, code);
            languages.put(person, language);
            return 1;
        }
        return 0;
    }

    private int block(int person, boolean on) {
        if (!isPerson(person)) {
            return 0;
        }
        int was = isBlocked(person) ? 1 : 0;
        blockedByTheHouse.remove(person);
        wrongInARow.remove(person);
        if (on) {
            blockedByTheHouse.add(person);
        }
        return was;
    }

    private int reserve(int item, int person) {
        if (!isItem(item) || !(person == -1 || isPerson(person))) {
            return 0;
        }
        reservedFor.remove(item);
        if (person != -1) {
            reservedFor.put(item, person);
        }
        return 1;
    }

    private int card(int person) {
        if (!isPerson(person) || asked != null || opened != null) {
            return 0;
        }
        if (isBlockedByCodes(person) || (!offline && blockedByTheHouse.contains(person))) {
            return -1;
        }
        asked = person;
        return 1;
    }

    private int code(int code) {
        if (asked == null) {
            return -2;
        }
        Integer person = asked;
        asked = null;
        if (code == codes.getOrDefault(person, 0)) {
            wrongInARow.remove(person);
            opened = person;
            scanned = null;
            receipt = new ArrayList<>();
            return 1;
        }
        wrongInARow.merge(person, 1, Integer::sum);
        return isBlockedByCodes(person) ? -1 : 0;
    }

    private int scan(int item) {
        if (!isItem(item) || opened == null) {
            return 0;
        }
        if (scanned != null && scanned == item) {
            return 2;
        }
        scanned = item;
        scannedIsDone = false;
        return 1;
    }

    private int twice() {
        scanned = null;
        return opened != null ? 1 : 0;
    }

    private int lend() {
        if (opened == null) {
            return -8;
        }
        if (scanned == null || scannedIsDone) {
            return -1;
        }
        if (offline && receipt.size() == 5) {
            return -6;
        }
        if (offline && rows.size() == mostRows) {
            return -7;
        }
        if (offline) {
            rows.add(new Row(true, scanned, opened));
            markIsOff.add(scanned);
        } else {
            int no = lendOnline(scanned, opened);
            if (no < 0) {
                return no;
            }
        }
        scannedIsDone = true;
        receipt.add(scanned);
        return receipt.size();
    }

    private int lendOnline(int item, int person) {
        if (outWith.containsKey(item)) {
            return -2;
        }
        if (reservedFor.getOrDefault(item, person) != person) {
            return -3;
        }
        if (isBlocked(person)) {
            return -4;
        }
        if (outWith.values().stream().filter(holder -> holder == person).count() == 10) {
            return -5;
        }
        outWith.put(item, person);
        markIsOff.add(item);
        reservedFor.remove(item);
        itemInLocker.values().removeIf(lying -> lying == item);
        return 0;
    }

    private int back(int item) {
        if (!isItem(item)) {
            return -1;
        }
        if (!offline) {
            return backOnline(item);
        }
        if (rows.size() == mostRows) {
            return -7;
        }
        rows.add(new Row(false, item, -1));
        markIsOff.remove(item);
        return 0;
    }

    private int backOnline(int item) {
        markIsOff.remove(item);
        boolean wasOut = outWith.remove(item) != null;
        return !wasOut ? 2 : reservedFor.containsKey(item) ? 1 : 0;
    }

    private int end(boolean cancelled) {
        if (opened == null) {
            return -1;
        }
        if (cancelled && !receipt.isEmpty()) {
            int item = receipt.remove(receipt.size() - 1);
            if (offline) {
                rows.remove(rows.lastIndexOf(new Row(true, item, opened)));
                markIsOff.remove(item);
            } else {
                backOnline(item);
            }
        }
        opened = null;
        return receipt.size();
    }

    private int offline(boolean on) {
        int was = offline ? 1 : 0;
        offline = on;
        asked = null;
        opened = null;
        return was;
    }

    private int join(int many) {
        if (offline || many < 0 || many > rows.size()) {
            return -1;
        }
        clashes = new ArrayList<>();
        for (int i = 0; i < many; i++) {
            Row row = rows.remove(0);
            boolean isClash = row.isLend ? lendOnline(row.item, row.person) < 0 : backOnline(row.item) == 2;
            if (isClash) {
                clashes.add(row);
            }
        }
        return clashes.size();
    }

    private int clash(int i, int what) {
        if (i < 0 || i >= clashes.size() || what < 0 || what > 2) {
            return -1;
        }
        Row row = clashes.get(i);
        return what == 0 ? row.item : what == 1 ? row.person : row.isLend ? 0 : 1;
    }

    private int locker(int item) {
        if (outWith.containsKey(item) || !reservedFor.containsKey(item) || itemInLocker.containsValue(item)) {
            return -1;
        }
        for (int locker = 0; locker <= 9; locker++) {
            if (itemInLocker.putIfAbsent(locker, item) == null) {
                return locker;
            }
        }
        return -1;
    }

    private int open(int locker, int code) {
        Integer item = itemInLocker.get(locker);
        Integer person = item == null ? null : reservedFor.get(item);
        if (person == null || codes.getOrDefault(person, 0) != code) {
            return -1;
        }
        int no = lendOnline(item, person);
        return no < 0 ? no : item;
    }

    private int screen() {
        Integer person = asked != null ? asked : opened;
        int language = person == null ? 0 : languages.getOrDefault(person, 0);
        return 10 * language + (asked != null ? 1 : opened != null ? 2 : 0) + (offline ? 5 : 0);
    }

    private int item(int item, int what) {
        if (!isItem(item) || what < 0 || what > 2) {
            return -2;
        }
        if (what < 2) {
            return (what == 0 ? outWith : reservedFor).getOrDefault(item, -1);
        }
        for (Map.Entry<Integer, Integer> entry : itemInLocker.entrySet()) {
            if (entry.getValue() == item) {
                return entry.getKey();
            }
        }
        return -1;
    }
}
