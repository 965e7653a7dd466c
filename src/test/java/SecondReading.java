import java.util.ArrayList;
import java.util.HashSet;
import java.util.List;
import java.util.NoSuchElementException;
import java.util.Set;

/**
 * The document written down once more, by other means than the class: a unit's state is held and changed, not
 * derived; labels are made as texts; differences are looked for when they are asked. The class must answer the same.
 */
final class SecondReading {
    private static final int ANNOUNCED = 0;
    private static final int ARRIVED = 1;
    private static final int ANNOUNCEMENT_WAITS = 2;
    private static final int CLOSED = 3;

    private static final int GOOD = 0;
    private static final int DAMAGED = 1;
    private static final int QUARANTINE = 2;
    private static final int UNIT_WAITS = 3;

    private final List<Announced> announced = new ArrayList<>();
    private final List<Made> made = new ArrayList<>();
    private final List<Told> closings = new ArrayList<>();
    private final Set<Integer> rights = new HashSet<>();
    private int labels;
    private int today;

    private static final class Announced {
        int number;
        int owner;
        int due;
        int state = ANNOUNCED;
        int door = -1;
        final List<Told> lines = new ArrayList<>();
    }

    private static final class Told {
        Announced of;
        int number;
        int good;
        int pieces;
        int counted;
        int hundredths;
        int wanted;
        int verdicts;
        boolean bad;
        boolean closed;
        final Set<Integer> counters = new HashSet<>();
        final List<Made> units = new ArrayList<>();

        int takes() {
            return (100 + hundredths) * pieces / 100;
        }

        int open() {
            return verdicts > wanted ? 0 : wanted - verdicts;
        }

        int stateOfFree() {
            return bad ? QUARANTINE : GOOD;
        }
    }

    private static final class Made {
        int number;
        Told line;
        int pieces;
        int lot;
        int state;
        int lastDay = -1;
        int kind;
        String label = "0";
        int prints;
    }

    int announce(int owner, int lines) {
        within(owner, 0, 7);
        within(lines, 1, 4);
        if (announced.size() == 16) {
            throw new UnsupportedOperationException();
        }
        Announced next = new Announced();
        next.number = announced.size() + 1;
        next.owner = owner;
        next.due = lines;
        announced.add(next);
        return next.number;
    }

    int line(int announce, int good, int n) {
        Announced it = announcement(announce);
        within(good, 0, 9);
        within(n, 0, 400);
        refuseIf(it.lines.size() == it.due);
        refuseIf(it.state == CLOSED);
        Told next = new Told();
        next.of = it;
        next.number = it.lines.size();
        next.good = good;
        next.pieces = n;
        it.lines.add(next);
        return next.number;
    }

    int arrive(int announce, int door, boolean known) {
        Announced it = announcement(announce);
        within(door, 0, 3);
        refuseIf(it.state != ANNOUNCED);
        refuseIf(it.lines.size() < it.due);
        for (Announced other : announced) {
            refuseIf(other.door == door && (other.state == ARRIVED || other.state == ANNOUNCEMENT_WAITS));
        }
        it.door = door;
        it.state = known ? ARRIVED : ANNOUNCEMENT_WAITS;
        return it.state;
    }

    void accept(int announce, int person) {
        Announced it = announcement(announce);
        within(person, 0, 7);
        refuseIf(it.state != ANNOUNCEMENT_WAITS);
        refuseIf(!rights.contains(person));
        it.state = ARRIVED;
    }

    void right(int person, boolean may) {
        within(person, 0, 7);
        rights.remove(person);
        if (may) {
            rights.add(person);
        }
    }

    void tolerance(int announce, int line, int hundredths) {
        Told it = line(announce, line);
        within(hundredths, 0, 50);
        refuseIf(it.closed);
        it.hundredths = hundredths;
    }

    void wanted(int announce, int line, int samples) {
        Told it = line(announce, line);
        within(samples, 0, 5);
        refuseIf(it.closed);
        it.wanted = samples;
    }

    int count(int announce, int line, int n, int lot, int person) {
        Told it = line(announce, line);
        within(n, 1, 400);
        within(lot, 0, 99);
        within(person, 0, 7);
        if (it.of.state != ARRIVED) {
            return -1;
        }
        if (it.closed) {
            return -2;
        }
        if (it.counters.contains(person)) {
            return -3;
        }
        if (it.counted + n > it.takes()) {
            return -4;
        }
        int full = n / 50;
        int rest = n % 50;
        int units = rest == 0 ? full : full + 1;
        if (made.size() + units > 120) {
            throw new UnsupportedOperationException();
        }
        for (int k = 0; k < units; k++) {
            make(it, k < full ? 50 : rest, lot);
        }
        it.counted += n;
        it.counters.add(person);
        return units;
    }

    private void make(Told line, int pieces, int lot) {
        Made next = new Made();
        next.number = made.size() + 1;
        next.line = line;
        next.pieces = pieces;
        next.lot = lot;
        next.state = line.stateOfFree();
        made.add(next);
        line.units.add(next);
    }

    int damaged(int unit, int kind) {
        Made it = made(unit);
        within(kind, 1, 9);
        refuseIf(it.state == DAMAGED);
        refuseIf(it.line.closed);
        it.state = DAMAGED;
        it.kind = kind;
        int all = 0;
        for (Made each : it.line.units) {
            all += each.state == DAMAGED ? 1 : 0;
        }
        return all;
    }

    int sample(int announce, int line, boolean good) {
        Told it = line(announce, line);
        refuseIf(it.of.state != ARRIVED);
        refuseIf(it.closed);
        refuseIf(it.open() == 0);
        it.verdicts++;
        if (!good) {
            it.bad = true;
            for (Made each : it.units) {
                each.state = each.state == GOOD ? QUARANTINE : each.state;
            }
        }
        return it.open();
    }

    int date(int unit, int until) {
        Made it = made(unit);
        within(until, 0, 10000);
        refuseIf(it.state == DAMAGED);
        refuseIf(it.line.closed);
        it.lastDay = until;
        it.state = until < today ? UNIT_WAITS : it.line.stateOfFree();
        return until < today ? 2 : 1;
    }

    int take(int unit, int person) {
        Made it = made(unit);
        within(person, 0, 7);
        refuseIf(it.state != UNIT_WAITS);
        refuseIf(!rights.contains(person));
        it.state = it.line.stateOfFree();
        return it.state;
    }

    int label(int unit) {
        Made it = made(unit);
        if (it.label.equals("0")) {
            labels++;
            String six = String.format("%d%05d", it.line.of.owner, labels);
            int check = 0;
            while (weighed(six, check) % 10 != 0) {
                check++;
            }
            it.label = six + check;
        }
        it.prints++;
        return Integer.parseInt(it.label);
    }

    private static int weighed(String six, int check) {
        int odd = six.charAt(0) + six.charAt(2) + six.charAt(4) - 3 * '0';
        int even = six.charAt(1) + six.charAt(3) + six.charAt(5) - 3 * '0';
        return 3 * odd + even + check;
    }

    int again(int unit) {
        Made it = made(unit);
        refuseIf(it.label.equals("0"));
        it.prints++;
        return it.prints;
    }

    int close(int announce, int line) {
        Told it = line(announce, line);
        refuseIf(it.of.state != ARRIVED);
        refuseIf(it.closed);
        boolean waits = false;
        boolean unlabelled = false;
        for (Made each : it.units) {
            waits |= each.state == UNIT_WAITS;
            unlabelled |= each.state != DAMAGED && each.label.equals("0");
        }
        if (it.open() > 0 || waits || unlabelled) {
            return it.open() > 0 ? 2 : waits ? 3 : 4;
        }
        it.closed = true;
        closings.add(it);
        return 1;
    }

    int closeAll(int announce) {
        Announced it = announcement(announce);
        refuseIf(it.state != ARRIVED);
        for (Told each : it.lines) {
            if (!each.closed) {
                return -(each.number + 1);
            }
        }
        it.state = CLOSED;
        return 1;
    }

    void day(int day) {
        within(day, 0, 10000);
        refuseIf(day < today);
        today = day;
    }

    int differ(int i, int what) {
        List<Told> different = new ArrayList<>();
        for (Told each : closings) {
            if (each.counted != each.pieces) {
                different.add(each);
            }
        }
        if (i < 0 || i >= different.size()) {
            throw new NoSuchElementException();
        }
        Told it = different.get(i);
        return asked(what, it.of.number, it.number, it.counted - it.pieces);
    }

    int claim(int announce, int i) {
        Announced it = announcement(announce);
        within(i, 0, Integer.MAX_VALUE);
        List<Integer> claims = new ArrayList<>();
        for (Made each : made) {
            if (each.line.of == it && each.state == DAMAGED) {
                claims.add(each.number);
            }
        }
        return i < claims.size() ? claims.get(i) : -1;
    }

    int unit(int unit, int what) {
        Made it = made(unit);
        return asked(what, it.state, it.line.of.number, it.line.number, it.pieces, it.lot, it.lastDay, it.kind,
                Integer.parseInt(it.label));
    }

    int told(int announce, int line, int what) {
        Told it = line(announce, line);
        return asked(what, it.good, it.pieces, it.counted, it.closed ? 1 : 0, it.open(), it.bad ? 1 : 0, it.takes());
    }

    int state(int announce, int what) {
        Announced it = announcement(announce);
        return asked(what, it.state, it.owner, it.lines.size(), it.door);
    }

    int count(int what) {
        int[] all = {announced.size(), made.size(), labels, today, closings.size()};
        return what >= 0 && what < all.length ? all[what] : -1;
    }

    private static int asked(int what, int... answers) {
        within(what, 0, answers.length - 1);
        return answers[what];
    }

    private static void within(int number, int first, int last) {
        if (number < first || number > last) {
            throw new IllegalArgumentException();
        }
    }

    private static void refuseIf(boolean so) {
        if (so) {
            throw new IllegalStateException();
        }
    }

    private Announced announcement(int number) {
        if (number < 1 || number > announced.size()) {
            throw new NoSuchElementException();
        }
        return announced.get(number - 1);
    }

    private Told line(int announce, int number) {
        List<Told> lines = announcement(announce).lines;
        if (number < 0 || number >= lines.size()) {
            throw new NoSuchElementException();
        }
        return lines.get(number);
    }

    private Made made(int number) {
        if (number < 1 || number > made.size()) {
            throw new NoSuchElementException();
        }
        return made.get(number - 1);
    }
}
