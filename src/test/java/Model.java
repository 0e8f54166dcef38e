import java.util.ArrayList;
import java.util.Arrays;
import java.util.Comparator;
import java.util.HashSet;
import java.util.List;
import java.util.stream.Collectors;

/** The document's words over again, slow and plain, and in another way than the class; a boolean is 1 or 0. */
final class Model {
    record Telling(int teller, long number, int thing, int kind, long value, long on) {
    }

    record Row(int account, long cents) {
    }

    private static final class Entry {
        int day;
        int number;
        final List<Row> rows = new ArrayList<>();
        boolean spent;
    }

    private static final Comparator<Telling> BY_TIME = Comparator.comparingLong(Telling::on)
            .thenComparingInt(Telling::teller).thenComparingLong(Telling::number);

    private final List<Telling> told = new ArrayList<>();
    private final List<List<Telling>> sets = new ArrayList<>();
    private final List<List<Telling>> begun = new ArrayList<>();
    private final HashSet<String> rights = new HashSet<>();
    private final List<Entry> entries = new ArrayList<>();
    private final boolean[] closedMonths = new boolean[120];

    long tell(int teller, long number, int thing, int kind, long v, long on) {
        index(teller, 6);
        index(thing, 10);
        argument(kind >= 0 && kind <= 3);
        if (told.stream().anyMatch(t -> t.teller == teller && t.number == number)) {
            return 0;
        }
        state(told.size() < 300);
        told.add(new Telling(teller, number, thing, kind, v, on));
        return 1;
    }

    long set(int teller) {
        index(teller, 6);
        state(sets.size() < 8);
        sets.add(told.stream().filter(t -> t.teller == teller).sorted(Comparator.comparingLong(Telling::number))
                .collect(Collectors.toCollection(ArrayList::new)));
        begun.add(null);
        return sets.size() - 1;
    }

    long join(int set, int other) {
        index(set, sets.size());
        index(other, sets.size());
        List<Telling> missing = new ArrayList<>(sets.get(other));
        missing.removeAll(sets.get(set));
        sets.get(set).addAll(missing);
        return missing.size();
    }

    long equal(int set, int other) {
        index(set, sets.size());
        index(other, sets.size());
        return flag(new HashSet<>(sets.get(set)).equals(new HashSet<>(sets.get(other))));
    }

    long at(int set, int thing, int kind, long on) {
        index(set, sets.size());
        index(thing, 10);
        argument(kind >= 0 && kind <= 3);
        return known(sets.get(set), thing, kind, on);
    }

    long conflict(int set, int k) {
        index(set, sets.size());
        argument(k >= 0);
        List<Integer> things = new ArrayList<>();
        for (int thing = 0; thing < 10; thing++) {
            List<Telling> marks = of(sets.get(set), thing, 2, Long.MAX_VALUE);
            if (!isSettled(sets.get(set), thing, Long.MAX_VALUE) && values(marks) > 1) {
                things.add(thing);
            }
        }
        return k < things.size() ? things.get(k) : -1;
    }

    long mark(int set) {
        index(set, sets.size());
        return sets.get(set).size();
    }

    long since(int set, int mark, int k, int what) {
        index(set, sets.size());
        if ((long) mark + (long) k >= sets.get(set).size()) {
            throw new IndexOutOfBoundsException();
        }
        argument(mark >= 0 && k >= 0 && what >= 0 && what <= 2);
        Telling telling = sets.get(set).get(mark + k);
        return new long[] {telling.teller, telling.number, telling.value}[what];
    }

    long batch(int set, boolean open) {
        index(set, sets.size());
        if (open == (begun.get(set) != null)) {
            return 0;
        }
        begun.set(set, open ? new ArrayList<>(sets.get(set)) : null);
        return 1;
    }

    long right(int person, int kind, boolean on) {
        index(person, 4);
        argument(kind >= 0 && kind <= 3);
        return flag(on ? rights.add(person + "/" + kind) : rights.remove(person + "/" + kind));
    }

    long seen(int person, int set, int thing, int kind) {
        index(person, 4);
        index(set, sets.size());
        index(thing, 10);
        argument(kind >= 0 && kind <= 3);
        state(rights.contains(person + "/" + kind));
        return known(begun.get(set) != null ? begun.get(set) : sets.get(set), thing, kind, Long.MAX_VALUE);
    }

    long entry(int day) {
        argument(day >= 0 && day <= 3599);
        state(entries.size() < 60);
        Entry entry = new Entry();
        entry.day = day;
        entries.add(entry);
        return entries.size() - 1;
    }

    long row(int entry, int account, long cents) {
        index(entry, entries.size());
        index(account, 10);
        argument(cents >= -1000000000L && cents <= 1000000000L);
        Entry target = entries.get(entry);
        state(target.number == 0 && target.rows.size() < 6);
        target.rows.add(new Row(account, cents));
        return target.rows.size();
    }

    long close(int entry) {
        index(entry, entries.size());
        Entry target = entries.get(entry);
        state(target.number == 0);
        if (target.rows.isEmpty() || target.rows.stream().mapToLong(Row::cents).sum() != 0
                || closedMonths[target.day / 30]) {
            return 0;
        }
        return number(target);
    }

    long balance(int account, int day) {
        index(account, 10);
        return entries.stream().filter(e -> e.number > 0 && e.day <= day).flatMap(e -> e.rows.stream())
                .filter(r -> r.account == account).mapToLong(Row::cents).sum();
    }

    long closeMonth(int month) {
        argument(month >= 0 && month <= 119);
        boolean wasOpen = !closedMonths[month];
        Arrays.fill(closedMonths, 0, month + 1, true);
        return flag(wasOpen);
    }

    long reverse(int number, int day) {
        Entry original = number < 1 ? null
                : entries.stream().filter(e -> e.number == number).findFirst().orElse(null);
        if (original == null) {
            throw new IndexOutOfBoundsException();
        }
        argument(day >= 0 && day <= 3599);
        state(!original.spent && entries.size() < 60);
        if (closedMonths[day / 30]) {
            return 0;
        }
        Entry turned = entries.get((int) entry(day));
        original.rows.forEach(r -> turned.rows.add(new Row(r.account, -r.cents)));
        original.spent = true;
        turned.spent = true;
        return number(turned);
    }

    private int number(Entry entry) {
        entry.number = 1 + (int) entries.stream().filter(e -> e.number > 0).count();
        return entry.number;
    }

    private static long known(List<Telling> set, int thing, int kind, long on) {
        List<Telling> those = of(set, thing, kind, on);
        if (kind == 0) {
            return those.stream().mapToLong(Telling::value).sum();
        }
        if (kind == 2) {
            if (isSettled(set, thing, on)) {
                return latest(of(set, thing, 3, on));
            }
            return values(those) == 1 ? those.get(0).value : 0;
        }
        return latest(those);
    }

    private static boolean isSettled(List<Telling> set, int thing, long on) {
        List<Telling> marks = of(set, thing, 2, on);
        return of(set, thing, 3, on).stream().anyMatch(s -> marks.stream().noneMatch(m -> s.on < m.on));
    }

    private static long values(List<Telling> those) {
        return those.stream().mapToLong(Telling::value).distinct().count();
    }

    private static long latest(List<Telling> those) {
        return those.stream().max(BY_TIME).map(Telling::value).orElse(0L);
    }

    private static List<Telling> of(List<Telling> set, int thing, int kind, long on) {
        return set.stream().filter(t -> t.thing == thing && t.kind == kind && t.on <= on).toList();
    }

    private static long flag(boolean is) {
        return is ? 1 : 0;
    }

    private static void index(int index, int count) {
        if (index < 0 || index >= count) {
            throw new IndexOutOfBoundsException();
        }
    }

    private static void argument(boolean isSo) {
        if (!isSo) {
            throw new IllegalArgumentException();
        }
    }

    private static void state(boolean isSo) {
        if (!isSo) {
            throw new IllegalStateException();
        }
    }
}
