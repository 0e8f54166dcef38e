/** Desks of a shop: what is told, by sets, and a ledger of entries; the promises stand in DOC.md. */
public final class ShopDesks {
    public static final int NONE = -1;
    public static final int COUNT = 0, PLACE = 1, MARK = 2, SETTLE = 3;

    private static final int TELLERS = 6;
    private static final int THINGS = 10;
    private static final int KINDS = 4;
    private static final int PERSONS = 4;
    private static final int MOST_TELLINGS = 300;
    private static final int MOST_SETS = 8;
    private static final long GREATEST_TIME = 0x7fffffffffffffffL;

    private static final int ACCOUNTS = 10;
    private static final int MOST_ENTRIES = 60;
    private static final int MOST_ROWS = 6;
    private static final long MOST_CENTS = 1000000000L;
    private static final int MONTHS = 120;
    private static final int MONTH_DAYS = 30;
    private static final int DAYS = MONTHS * MONTH_DAYS;

    private final Tellings tellings;
    private final TellingSet[] sets;
    private int setCount;
    private final boolean[] rights;
    private final Ledger ledger;

    public ShopDesks() {
        tellings = new Tellings();
        sets = new TellingSet[MOST_SETS];
        for (int i = 0; i < MOST_SETS; i++) {
            sets[i] = new TellingSet(tellings);
        }
        setCount = 0;
        rights = new boolean[PERSONS * KINDS];
        ledger = new Ledger();
    }

    public int tell(int teller, long number, int thing, int kind, long v, long on)
            throws IndexOutOfBoundsException, IllegalArgumentException, IllegalStateException {
        needTeller(teller);
        needThing(thing);
        needKind(kind);
        // A telling that is there already needs no room, so this stands before the limit.
        if (tellings.isTold(teller, number)) {
            return 0;
        }
        if (tellings.count >= MOST_TELLINGS) {
            throw new IllegalStateException("there are 300 tellings");
        }
        tellings.append(teller, number, thing, kind, v, on);
        return 1;
    }

    public int set(int teller) throws IndexOutOfBoundsException, IllegalStateException {
        needTeller(teller);
        if (setCount >= MOST_SETS) {
            throw new IllegalStateException("there are 8 sets");
        }
        sets[setCount].takeAllOf(teller);
        setCount++;
        return setCount - 1;
    }

    public int join(int set, int other) throws IndexOutOfBoundsException {
        needSet(set);
        needSet(other);
        return sets[set].takeMissing(sets[other]);
    }

    public boolean equal(int set, int other) throws IndexOutOfBoundsException {
        needSet(set);
        needSet(other);
        return sets[set].hasSameAs(sets[other]);
    }

    public long at(int set, int thing, int kind, long on)
            throws IndexOutOfBoundsException, IllegalArgumentException {
        needSet(set);
        needThing(thing);
        needKind(kind);
        return sets[set].known(thing, kind, on, sets[set].size);
    }

    public int conflict(int set, int k) throws IndexOutOfBoundsException, IllegalArgumentException {
        needSet(set);
        if (k < 0) {
            throw new IllegalArgumentException("k is below 0");
        }
        int before = 0;
        for (int thing = 0; thing < THINGS; thing++) {
            if (sets[set].isInConflict(thing)) {
                if (before == k) {
                    return thing;
                }
                before++;
            }
        }
        return NONE;
    }

    public int mark(int set) throws IndexOutOfBoundsException {
        needSet(set);
        return sets[set].size;
    }

    public long since(int set, int mark, int k, int what)
            throws IndexOutOfBoundsException, IllegalArgumentException {
        needSet(set);
        // As a long, for the sum of two ints may be beyond an int.
        long place = (long) mark + k;
        if (place >= sets[set].size) {
            throw new IndexOutOfBoundsException("there are not so many tellings");
        }
        if (mark < 0 || k < 0) {
            throw new IllegalArgumentException("mark or k is below 0");
        }
        if (what < 0 || what > 2) {
            throw new IllegalArgumentException("what is not 0, 1 or 2");
        }
        int telling = sets[set].order[(int) place];
        if (what == 0) {
            return tellings.teller[telling];
        }
        return what == 1 ? tellings.number[telling] : tellings.value[telling];
    }

    public boolean batch(int set, boolean open) throws IndexOutOfBoundsException {
        needSet(set);
        return open ? sets[set].beginBatch() : sets[set].endBatch();
    }

    public boolean right(int person, int kind, boolean on)
            throws IndexOutOfBoundsException, IllegalArgumentException {
        needPerson(person);
        needKind(kind);
        int place = person * KINDS + kind;
        boolean isNew = rights[place] != on;
        rights[place] = on;
        return isNew;
    }

    public long seen(int person, int set, int thing, int kind)
            throws IndexOutOfBoundsException, IllegalArgumentException, IllegalStateException {
        needPerson(person);
        needSet(set);
        needThing(thing);
        needKind(kind);
        if (!rights[person * KINDS + kind]) {
            throw new IllegalStateException("the person has no right to that kind");
        }
        return sets[set].known(thing, kind, GREATEST_TIME, sets[set].sizeToSee());
    }

    public int entry(int day) throws IllegalArgumentException, IllegalStateException {
        needDay(day);
        needRoomForEntry();
        return ledger.openEntry(day);
    }

    public int row(int entry, int account, long cents)
            throws IndexOutOfBoundsException, IllegalArgumentException, IllegalStateException {
        needEntry(entry);
        needAccount(account);
        if (cents < -MOST_CENTS || cents > MOST_CENTS) {
            throw new IllegalArgumentException("cents are not -1000000000 .. 1000000000");
        }
        Entry target = ledger.entries[entry];
        if (target.isClosed() || target.rowCount >= MOST_ROWS) {
            throw new IllegalStateException("the entry has 6 rows, or is closed");
        }
        target.addRow(account, cents);
        return target.rowCount;
    }

    public int close(int entry) throws IndexOutOfBoundsException, IllegalStateException {
        needEntry(entry);
        Entry target = ledger.entries[entry];
        if (target.isClosed()) {
            throw new IllegalStateException("the entry is closed");
        }
        if (ledger.isInClosedMonth(target.day) || !target.isBalanced()) {
            return 0;
        }
        return ledger.giveNumber(entry);
    }

    public long balance(int account, int day) throws IndexOutOfBoundsException {
        needAccount(account);
        return ledger.sumUpTo(account, day);
    }

    public boolean closeMonth(int month) throws IllegalArgumentException {
        if (month < 0 || month >= MONTHS) {
            throw new IllegalArgumentException("month is not 0 .. 119");
        }
        if (month <= ledger.lastClosedMonth) {
            return false;
        }
        ledger.lastClosedMonth = month;
        return true;
    }

    public int reverse(int number, int day)
            throws IndexOutOfBoundsException, IllegalArgumentException, IllegalStateException {
        if (number < 1 || number > ledger.lastNumber) {
            throw new IndexOutOfBoundsException("there is no such number");
        }
        needDay(day);
        Entry original = ledger.entries[ledger.entryOfNumber[number]];
        if (original.isReversed || original.isReversal) {
            throw new IllegalStateException("it is reversed, or reverses");
        }
        needRoomForEntry();
        if (ledger.isInClosedMonth(day)) {
            return 0;
        }
        return ledger.addReversal(original, day);
    }

    private static void needTeller(int teller) {
        if (teller < 0 || teller >= TELLERS) {
            throw new IndexOutOfBoundsException("there is no such teller");
        }
    }

    private static void needThing(int thing) {
        if (thing < 0 || thing >= THINGS) {
            throw new IndexOutOfBoundsException("there is no such thing");
        }
    }

    private static void needKind(int kind) {
        if (kind < 0 || kind >= KINDS) {
            throw new IllegalArgumentException("there is no such kind");
        }
    }

    private static void needPerson(int person) {
        if (person < 0 || person >= PERSONS) {
            throw new IndexOutOfBoundsException("there is no such person");
        }
    }

    private static void needAccount(int account) {
        if (account < 0 || account >= ACCOUNTS) {
            throw new IndexOutOfBoundsException("there is no such account");
        }
    }

    private static void needDay(int day) {
        if (day < 0 || day >= DAYS) {
            throw new IllegalArgumentException("day is not 0 .. 3599");
        }
    }

    private void needSet(int set) {
        if (set < 0 || set >= setCount) {
            throw new IndexOutOfBoundsException("there is no such set");
        }
    }

    private void needEntry(int entry) {
        if (entry < 0 || entry >= ledger.entryCount) {
            throw new IndexOutOfBoundsException("there is no such entry");
        }
    }

    private void needRoomForEntry() {
        if (ledger.entryCount >= MOST_ENTRIES) {
            throw new IllegalStateException("there are 60 entries");
        }
    }

    /** All that was told, each telling by its place in the order of telling. */
    private static final class Tellings {
        final int[] teller = new int[MOST_TELLINGS];
        final long[] number = new long[MOST_TELLINGS];
        final int[] thing = new int[MOST_TELLINGS];
        final int[] kind = new int[MOST_TELLINGS];
        final long[] value = new long[MOST_TELLINGS];
        final long[] on = new long[MOST_TELLINGS];
        int count = 0;

        boolean isTold(int byTeller, long itsNumber) {
            for (int i = 0; i < count; i++) {
                if (number[i] == itsNumber && teller[i] == byTeller) {
                    return true;
                }
            }
            return false;
        }

        void append(int byTeller, long itsNumber, int itsThing, int itsKind, long itsValue, long itsOn) {
            teller[count] = byTeller;
            number[count] = itsNumber;
            thing[count] = itsThing;
            kind[count] = itsKind;
            value[count] = itsValue;
            on[count] = itsOn;
            count++;
        }

        boolean holds(int telling, int ofThing, int ofKind, long time) {
            return thing[telling] == ofThing && kind[telling] == ofKind && on[telling] <= time;
        }

        boolean isLater(int telling, int than) {
            if (on[telling] != on[than]) {
                return on[telling] > on[than];
            }
            if (teller[telling] != teller[than]) {
                return teller[telling] > teller[than];
            }
            return number[telling] > number[than];
        }
    }

    /**
     * Some of the tellings, in the order in which they came. What is known is asked of the first
     * so many of them: a set only grows, so the first ones are the set as it was at an earlier time.
     */
    private static final class TellingSet {
        final Tellings tellings;
        final int[] order = new int[MOST_TELLINGS];
        final boolean[] isIn = new boolean[MOST_TELLINGS];
        int size = 0;
        int sizeAtBatch = NONE;

        TellingSet(Tellings tellings) {
            this.tellings = tellings;
        }

        void takeAllOf(int teller) {
            for (int telling = 0; telling < tellings.count; telling++) {
                if (tellings.teller[telling] == teller) {
                    insertByNumber(telling);
                }
            }
        }

        private void insertByNumber(int telling) {
            int place = size;
            while (place > 0 && tellings.number[order[place - 1]] > tellings.number[telling]) {
                order[place] = order[place - 1];
                place--;
            }
            order[place] = telling;
            isIn[telling] = true;
            size++;
        }

        int takeMissing(TellingSet other) {
            int sizeBefore = size;
            for (int i = 0; i < other.size; i++) {
                int telling = other.order[i];
                if (!isIn[telling]) {
                    order[size] = telling;
                    isIn[telling] = true;
                    size++;
                }
            }
            return size - sizeBefore;
        }

        boolean hasSameAs(TellingSet other) {
            if (size != other.size) {
                return false;
            }
            for (int i = 0; i < size; i++) {
                if (!other.isIn[order[i]]) {
                    return false;
                }
            }
            return true;
        }

        boolean beginBatch() {
            if (sizeAtBatch != NONE) {
                return false;
            }
            sizeAtBatch = size;
            return true;
        }

        boolean endBatch() {
            if (sizeAtBatch == NONE) {
                return false;
            }
            sizeAtBatch = NONE;
            return true;
        }

        int sizeToSee() {
            return sizeAtBatch == NONE ? size : sizeAtBatch;
        }

        long known(int thing, int kind, long time, int first) {
            if (kind == COUNT) {
                return sumOfCounts(thing, time, first);
            }
            if (kind == MARK) {
                return knownMark(thing, time, first);
            }
            return valueOrZero(latest(thing, kind, time, first));
        }

        boolean isInConflict(int thing) {
            return settling(thing, GREATEST_TIME, size) == NONE && hasUnlikeMarks(thing, GREATEST_TIME, size);
        }

        private long sumOfCounts(int thing, long time, int first) {
            long sum = 0;
            for (int i = 0; i < first; i++) {
                if (tellings.holds(order[i], thing, COUNT, time)) {
                    sum += tellings.value[order[i]];
                }
            }
            return sum;
        }

        private long knownMark(int thing, long time, int first) {
            int settle = settling(thing, time, first);
            if (settle != NONE) {
                return tellings.value[settle];
            }
            if (hasUnlikeMarks(thing, time, first)) {
                return 0;
            }
            return valueOrZero(latest(thing, MARK, time, first));
        }

        private int latest(int thing, int kind, long time, int first) {
            int latest = NONE;
            for (int i = 0; i < first; i++) {
                int telling = order[i];
                if (tellings.holds(telling, thing, kind, time)
                        && (latest == NONE || tellings.isLater(telling, latest))) {
                    latest = telling;
                }
            }
            return latest;
        }

        /** The settle that stands, or NONE; where there is no mark, it is before none and stands. */
        private int settling(int thing, long time, int first) {
            int settle = latest(thing, SETTLE, time, first);
            int lastMark = latest(thing, MARK, time, first);
            if (settle == NONE || lastMark == NONE) {
                return settle;
            }
            return tellings.on[settle] >= tellings.on[lastMark] ? settle : NONE;
        }

        private boolean hasUnlikeMarks(int thing, long time, int first) {
            int one = latest(thing, MARK, time, first);
            if (one == NONE) {
                return false;
            }
            for (int i = 0; i < first; i++) {
                if (tellings.holds(order[i], thing, MARK, time)
                        && tellings.value[order[i]] != tellings.value[one]) {
                    return true;
                }
            }
            return false;
        }

        private long valueOrZero(int telling) {
            return telling == NONE ? 0 : tellings.value[telling];
        }
    }

    /** A day and its rows; its number is 0 until it is closed. */
    private static final class Entry {
        final int[] accounts = new int[MOST_ROWS];
        final long[] cents = new long[MOST_ROWS];
        int rowCount = 0;
        int day = 0;
        int number = 0;
        boolean isReversed = false;
        boolean isReversal = false;

        boolean isClosed() {
            return number != 0;
        }

        void addRow(int account, long itsCents) {
            accounts[rowCount] = account;
            cents[rowCount] = itsCents;
            rowCount++;
        }

        void takeTurnedRound(Entry original) {
            for (int i = 0; i < original.rowCount; i++) {
                addRow(original.accounts[i], -original.cents[i]);
            }
        }

        boolean isBalanced() {
            long total = 0;
            for (int i = 0; i < rowCount; i++) {
                total += cents[i];
            }
            return rowCount > 0 && total == 0;
        }

        long sumOf(int account) {
            long sum = 0;
            for (int i = 0; i < rowCount; i++) {
                if (accounts[i] == account) {
                    sum += cents[i];
                }
            }
            return sum;
        }
    }

    /** The entries as they were opened, and by their numbers, which begin at 1. */
    private static final class Ledger {
        final Entry[] entries = new Entry[MOST_ENTRIES];
        final int[] entryOfNumber = new int[MOST_ENTRIES + 1];
        int entryCount = 0;
        int lastNumber = 0;
        int lastClosedMonth = NONE;

        Ledger() {
            for (int i = 0; i < MOST_ENTRIES; i++) {
                entries[i] = new Entry();
            }
        }

        int openEntry(int day) {
            entries[entryCount].day = day;
            entryCount++;
            return entryCount - 1;
        }

        int giveNumber(int entry) {
            lastNumber++;
            entries[entry].number = lastNumber;
            entryOfNumber[lastNumber] = entry;
            return lastNumber;
        }

        int addReversal(Entry original, int day) {
            int entry = openEntry(day);
            entries[entry].takeTurnedRound(original);
            entries[entry].isReversal = true;
            original.isReversed = true;
            return giveNumber(entry);
        }

        boolean isInClosedMonth(int day) {
            return day / MONTH_DAYS <= lastClosedMonth;
        }

        long sumUpTo(int account, int day) {
            long sum = 0;
            for (int i = 0; i < entryCount; i++) {
                if (entries[i].isClosed() && entries[i].day <= day) {
                    sum += entries[i].sumOf(account);
                }
            }
            return sum;
        }
    }
}
