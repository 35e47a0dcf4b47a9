import java.util.Arrays;

/**
 * A self service station of a library. The numbered promises that the methods
 * name stand in the document (../shared/DOC.md).
 */
public final class SelfCheckSteps {
    public static final int NONE = -1;

    private static final int PERSONS = 40;
    private static final int LANGUAGES = 3;
    private static final int ITEMS = 60;
    private static final int LOCKERS = 10;

    private static final int MOST_ROWS = 100;
    private static final int MOST_ITEMS = 10;
    private static final int MOST_ITEMS_OFFLINE = 5;
    private static final int MOST_WRONG_CODES = 3;

    // A lend takes a scan and a lend, so 512 calls hold fewer lends than this.
    private static final int RECEIPT_LENGTH = 256;

    private static final int IDLE = 0;
    private static final int ASKS = 1;
    private static final int OPEN = 2;

    private static final int NOTHING_SCANNED = -1;
    private static final int ITEM_IS_OUT = -2;
    private static final int ITEM_IS_RESERVED = -3;
    private static final int PERSON_IS_BLOCKED = -4;
    private static final int PERSON_HAS_MOST = -5;
    private static final int SESSION_HAS_MOST = -6;
    private static final int NO_ROW_IS_LEFT = -7;
    private static final int NOT_OPEN = -8;

    private static final int RETURNED = 0;
    private static final int RETURNED_RESERVED = 1;
    private static final int WAS_IN = 2;

    private final House house;
    private final RowList kept;
    private final RowList clashes;
    private final Session session;
    private boolean isOffline;

    /** Promise 1. */
    public SelfCheckSteps(int offline) {
        int most = Math.max(0, Math.min(MOST_ROWS, offline));
        house = new House();
        kept = new RowList(most);
        clashes = new RowList(most);
        session = new Session();
        isOffline = false;
    }

    /** Promise 2. */
    public int person(int person, int code, int language) {
        if (!isPerson(person) || language < 0 || language >= LANGUAGES) {
            return 0;
        }
        house.codes[person] = code;
        house.languages[person] = language;
        return 1;
    }

    /** Promise 3. */
    public boolean block(int person, boolean on) {
        if (!isPerson(person)) {
            return false;
        }
        boolean was = house.isBlocked(person);
        house.barred[person] = on;
        house.wrongCodes[person] = 0;
        return was;
    }

    /** Promise 4. */
    public int reserve(int item, int person) {
        if (!isItem(item) || (person != NONE && !isPerson(person))) {
            return 0;
        }
        house.reservedFor[item] = person;
        return 1;
    }

    /** Promise 5. */
    public int card(int person) {
        if (!isPerson(person) || session.state != IDLE) {
            return 0;
        }
        if (isRefusedAtTheStation(person)) {
            return -1;
        }
        session.state = ASKS;
        session.person = person;
        return 1;
    }

    /** Promise 6. */
    public int code(int code) {
        if (session.state != ASKS) {
            return NONE - 1;
        }
        int person = session.person;
        if (house.codes[person] == code) {
            house.wrongCodes[person] = 0;
            session.begin();
            return 1;
        }
        house.wrongCodes[person]++;
        session.close();
        return house.isBlockedByCodes(person) ? -1 : 0;
    }

    /** Promise 7. */
    public int scan(int item) {
        if (!isItem(item) || session.state != OPEN) {
            return 0;
        }
        if (session.latest == item) {
            return 2;
        }
        session.latest = item;
        session.latestIsDone = false;
        return 1;
    }

    /** Promise 8. */
    public int twice() {
        if (session.state != OPEN) {
            return 0;
        }
        session.latest = NONE;
        return 1;
    }

    /** Promise 9. */
    public int lend() {
        if (session.state != OPEN) {
            return NOT_OPEN;
        }
        if (!session.hasItemToLend()) {
            return NOTHING_SCANNED;
        }
        int refusal = isOffline ? refusalOffline() : house.refusal(session.latest, session.person);
        if (refusal != 0) {
            return refusal;
        }
        if (isOffline) {
            kept.add(session.latest, session.person);
            house.marked[session.latest] = false;
        } else {
            house.giveOut(session.latest, session.person);
        }
        session.addLent();
        return session.lentCount;
    }

    /** Promise 10. */
    public int back(int item) {
        if (!isItem(item)) {
            return NONE;
        }
        if (!isOffline) {
            return house.takeBack(item);
        }
        if (kept.isFull()) {
            return NO_ROW_IS_LEFT;
        }
        kept.add(item, NONE);
        house.marked[item] = true;
        return RETURNED;
    }

    /** Promise 11. */
    public int end(boolean cancelled) {
        if (session.state != OPEN) {
            return NONE;
        }
        if (cancelled && session.lentCount > 0) {
            undoLatestLend();
        }
        session.close();
        return session.lentCount;
    }

    /** Promise 12. */
    public boolean offline(boolean on) {
        boolean was = isOffline;
        isOffline = on;
        session.close();
        return was;
    }

    /** Promise 13. */
    public int join(int rows) {
        if (isOffline || rows < 0 || rows > kept.count) {
            return NONE;
        }
        clashes.removeFirst(clashes.count);
        for (int i = 0; i < rows; i++) {
            joinRow(kept.items[i], kept.persons[i]);
        }
        kept.removeFirst(rows);
        return clashes.count;
    }

    /** Promise 14. */
    public int clash(int i, int what) {
        if (i < 0 || i >= clashes.count) {
            return NONE;
        }
        switch (what) {
            case 0:
                return clashes.items[i];
            case 1:
                return clashes.persons[i];
            case 2:
                return clashes.isLend(i) ? 0 : 1;
            default:
                return NONE;
        }
    }

    /** Promise 15. */
    public int locker(int item) {
        if (!isItem(item) || !house.mayGoToLocker(item)) {
            return NONE;
        }
        int free = house.firstEmptyLocker();
        if (free != NONE) {
            house.lockers[free] = item;
            house.lockerOf[item] = free;
        }
        return free;
    }

    /** Promise 16. */
    public int open(int locker, int code) {
        if (locker < 0 || locker >= LOCKERS || house.lockers[locker] == NONE) {
            return NONE;
        }
        int item = house.lockers[locker];
        int person = house.reservedFor[item];
        if (person == NONE || house.codes[person] != code) {
            return NONE;
        }
        int refusal = house.refusal(item, person);
        if (refusal != 0) {
            return refusal;
        }
        house.giveOut(item, person);
        return item;
    }

    /** Promise 17. */
    public boolean door(int item) {
        return isItem(item) && house.marked[item];
    }

    /** Promise 18. */
    public int receipt(int i) {
        return i >= 0 && i < session.lentCount ? session.lent[i] : NONE;
    }

    /** Promise 19. */
    public int screen() {
        int language = session.state == IDLE ? 0 : house.languages[session.person];
        return language * 10 + session.state + (isOffline ? 5 : 0);
    }

    /** Promise 20. */
    public int item(int item, int what) {
        if (!isItem(item)) {
            return -2;
        }
        switch (what) {
            case 0:
                return house.holders[item];
            case 1:
                return house.reservedFor[item];
            case 2:
                return house.lockerOf[item];
            default:
                return -2;
        }
    }

    /** Promise 21. */
    public int rows() {
        return kept.count;
    }

    private static boolean isPerson(int person) {
        return person >= 0 && person < PERSONS;
    }

    private static boolean isItem(int item) {
        return item >= 0 && item < ITEMS;
    }

    // Codes are checked by the station itself, so their blocks hold offline too.
    private boolean isRefusedAtTheStation(int person) {
        return isOffline ? house.isBlockedByCodes(person) : house.isBlocked(person);
    }

    private int refusalOffline() {
        if (session.lentCount >= MOST_ITEMS_OFFLINE) {
            return SESSION_HAS_MOST;
        }
        return kept.isFull() ? NO_ROW_IS_LEFT : 0;
    }

    private void undoLatestLend() {
        int item = session.removeLatestLent();
        if (isOffline) {
            kept.removeLatestLend();
            house.marked[item] = true;
        } else {
            house.takeBack(item);
        }
    }

    private void joinRow(int item, int person) {
        boolean clashed;
        if (person == NONE) {
            // The document leaves only a clashing lend undone: a clashing return turns the mark on.
            clashed = house.takeBack(item) == WAS_IN;
        } else {
            clashed = house.refusal(item, person) != 0;
            if (!clashed) {
                house.giveOut(item, person);
            }
        }
        if (clashed) {
            clashes.add(item, person);
        }
    }

    /** What the library knows of persons, items and lockers. */
    private static final class House {
        private final int[] codes = new int[PERSONS];
        private final int[] languages = new int[PERSONS];
        // Apart from wrong codes, because offline the station does not know these blocks.
        private final boolean[] barred = new boolean[PERSONS];
        private final int[] wrongCodes = new int[PERSONS];
        private final int[] holders = new int[ITEMS];
        private final int[] reservedFor = new int[ITEMS];
        private final boolean[] marked = new boolean[ITEMS];
        private final int[] lockerOf = new int[ITEMS];
        private final int[] lockers = new int[LOCKERS];

        House() {
            Arrays.fill(holders, NONE);
            Arrays.fill(reservedFor, NONE);
            Arrays.fill(lockerOf, NONE);
            Arrays.fill(lockers, NONE);
            for (int i = 0; i < ITEMS; i++) {
                marked[i] = true;
            }
        }

        boolean isBlockedByCodes(int person) {
            return wrongCodes[person] >= MOST_WRONG_CODES;
        }

        boolean isBlocked(int person) {
            return barred[person] || isBlockedByCodes(person);
        }

        int countItemsOf(int person) {
            int count = 0;
            for (int i = 0; i < ITEMS; i++) {
                if (holders[i] == person) {
                    count++;
                }
            }
            return count;
        }

        // Why the item can't go out with the person, or 0 if it can.
        int refusal(int item, int person) {
            if (holders[item] != NONE) {
                return ITEM_IS_OUT;
            }
            if (reservedFor[item] != NONE && reservedFor[item] != person) {
                return ITEM_IS_RESERVED;
            }
            if (isBlocked(person)) {
                return PERSON_IS_BLOCKED;
            }
            return countItemsOf(person) >= MOST_ITEMS ? PERSON_HAS_MOST : 0;
        }

        void giveOut(int item, int person) {
            holders[item] = person;
            marked[item] = false;
            if (reservedFor[item] == person) {
                reservedFor[item] = NONE;
            }
            // An item that is out lies in no locker, also if it was lent at the desk.
            int locker = lockerOf[item];
            if (locker != NONE) {
                lockers[locker] = NONE;
                lockerOf[item] = NONE;
            }
        }

        int takeBack(int item) {
            marked[item] = true;
            if (holders[item] == NONE) {
                return WAS_IN;
            }
            holders[item] = NONE;
            return reservedFor[item] == NONE ? RETURNED : RETURNED_RESERVED;
        }

        boolean mayGoToLocker(int item) {
            return holders[item] == NONE && reservedFor[item] != NONE && lockerOf[item] == NONE;
        }

        int firstEmptyLocker() {
            for (int i = 0; i < LOCKERS; i++) {
                if (lockers[i] == NONE) {
                    return i;
                }
            }
            return NONE;
        }
    }

    /** Lends and returns in their order; a return has no person. */
    private static final class RowList {
        private final int[] items;
        private final int[] persons;
        private int count;

        RowList(int most) {
            int length = Math.max(0, most);
            items = new int[length];
            persons = new int[length];
            count = 0;
        }

        boolean isFull() {
            return count >= items.length;
        }

        boolean isLend(int i) {
            return persons[i] != NONE;
        }

        void add(int item, int person) {
            if (isFull()) {
                return;
            }
            items[count] = item;
            persons[count] = person;
            count++;
        }

        // Returns of others may have come after the lend, so it need not be the last row.
        void removeLatestLend() {
            for (int i = count - 1; i >= 0; i--) {
                if (isLend(i)) {
                    removeRange(i, i + 1);
                    return;
                }
            }
        }

        void removeFirst(int many) {
            removeRange(0, many);
        }

        private void removeRange(int from, int to) {
            if (from < 0 || to < from || to > count) {
                return;
            }
            for (int i = to; i < count; i++) {
                items[from + i - to] = items[i];
                persons[from + i - to] = persons[i];
            }
            count -= to - from;
        }
    }

    /** The session at the station; what it lent stays readable until the next one opens. */
    private static final class Session {
        private final int[] lent = new int[RECEIPT_LENGTH];
        private int lentCount = 0;
        private int state = IDLE;
        private int person = 0;
        private int latest = NONE;
        private boolean latestIsDone = false;

        void begin() {
            state = OPEN;
            latest = NONE;
            latestIsDone = false;
            lentCount = 0;
        }

        void close() {
            state = IDLE;
        }

        // The receipt is full only after the 512th call, when every answer is free.
        boolean hasItemToLend() {
            return latest != NONE && !latestIsDone && lentCount < lent.length;
        }

        void addLent() {
            if (lentCount >= lent.length) {
                return;
            }
            lent[lentCount] = latest;
            lentCount++;
            latestIsDone = true;
        }

        int removeLatestLent() {
            lentCount--;
            return lent[lentCount];
        }
    }
}
