import java.util.NoSuchElementException;

/** Receiving at a warehouse, from the announcement to the closing and the claims. */
public final class ReceiveSteps {
    private static final int MOST_ANNOUNCEMENTS = 16;
    private static final int MOST_LINES = 4;
    private static final int MOST_UNITS = 120;
    private static final int LAST_DAY = 10000;
    private static final int LAST_OWNER = 7;
    private static final int LAST_PERSON = 7;
    private static final int LAST_GOOD = 9;
    private static final int LAST_DOOR = 3;
    private static final int LAST_LOT = 99;
    private static final int LAST_DAMAGE = 9;
    private static final int MOST_PIECES = 400;
    private static final int MOST_HUNDREDTHS = 50;
    private static final int MOST_SAMPLES = 5;
    private static final int UNIT_PIECES = 50;
    private static final int LABEL_NUMBERS = 100000;
    private static final int LABEL_DIGITS = 6;

    private static final int NONE = -1;

    private static final int NOT_ARRIVED = -1;
    private static final int LINE_CLOSED = -2;
    private static final int COUNTED_ALREADY = -3;
    private static final int TOO_MANY = -4;

    private static final int DONE = 1;
    private static final int WAITS = 2;
    private static final int OPEN_SAMPLES = 2;
    private static final int OPEN_WAITING = 3;
    private static final int OPEN_LABEL = 4;

    private final Announcement[] announcements;
    private final Unit[] units;
    private final Line[] differences;
    private int announcementsMade;
    private int unitsMade;
    private int labelsMade;
    private int differencesFound;
    private int linesClosed;
    private int today;
    private int rights; // one bit a person

    public ReceiveSteps() {
        announcements = new Announcement[MOST_ANNOUNCEMENTS];
        units = new Unit[MOST_UNITS];
        differences = new Line[MOST_ANNOUNCEMENTS * MOST_LINES];
    }

    public int announce(int owner, int lines) throws IllegalArgumentException, UnsupportedOperationException {
        mustBeWithin(owner, 0, LAST_OWNER);
        mustBeWithin(lines, 1, MOST_LINES);
        if (announcementsMade >= announcements.length) {
            throw new UnsupportedOperationException("no room for another announcement");
        }
        announcements[announcementsMade] = new Announcement(announcementsMade + 1, owner, lines);
        announcementsMade++;
        return announcementsMade;
    }

    public int line(int announce, int good, int n)
            throws NoSuchElementException, IllegalArgumentException, IllegalStateException {
        Announcement announcement = announcementOf(announce);
        mustBeWithin(good, 0, LAST_GOOD);
        mustBeWithin(n, 0, MOST_PIECES);
        mustHold(announcement.state != Announcement.CLOSED && !announcement.hasAllLines());
        return announcement.addLine(good, n);
    }

    public int arrive(int announce, int door, boolean known)
            throws NoSuchElementException, IllegalArgumentException, IllegalStateException {
        Announcement announcement = announcementOf(announce);
        mustBeWithin(door, 0, LAST_DOOR);
        mustHold(announcement.state == Announcement.ANNOUNCED && announcement.hasAllLines());
        mustHold(!isTaken(door));
        announcement.door = door;
        announcement.state = known ? Announcement.ARRIVED : Announcement.WAITING;
        return announcement.state;
    }

    public void accept(int announce, int person)
            throws NoSuchElementException, IllegalArgumentException, IllegalStateException {
        Announcement announcement = announcementOf(announce);
        mustBeWithin(person, 0, LAST_PERSON);
        mustHold(announcement.state == Announcement.WAITING && hasRight(person));
        announcement.state = Announcement.ARRIVED;
    }

    public void right(int person, boolean may) throws IllegalArgumentException {
        mustBeWithin(person, 0, LAST_PERSON);
        rights = may ? rights | bitOf(person) : rights & ~bitOf(person);
    }

    public void tolerance(int announce, int line, int hundredths)
            throws NoSuchElementException, IllegalArgumentException, IllegalStateException {
        Line told = lineOf(announce, line);
        mustBeWithin(hundredths, 0, MOST_HUNDREDTHS);
        mustHold(!told.closed);
        told.hundredths = hundredths;
    }

    public void wanted(int announce, int line, int samples)
            throws NoSuchElementException, IllegalArgumentException, IllegalStateException {
        Line told = lineOf(announce, line);
        mustBeWithin(samples, 0, MOST_SAMPLES);
        mustHold(!told.closed);
        told.samplesWanted = samples;
    }

    public int count(int announce, int line, int n, int lot, int person)
            throws NoSuchElementException, IllegalArgumentException, UnsupportedOperationException {
        Line told = lineOf(announce, line);
        mustBeWithin(n, 1, MOST_PIECES);
        mustBeWithin(lot, 0, LAST_LOT);
        mustBeWithin(person, 0, LAST_PERSON);
        int broken = brokenByCounting(told, n, person);
        if (broken < 0) {
            return broken;
        }
        int more = (n + UNIT_PIECES - 1) / UNIT_PIECES;
        if (more > units.length - unitsMade) {
            throw new UnsupportedOperationException("no room for so many units more");
        }
        makeUnits(told, n, lot);
        told.counted += n;
        told.countedBy |= bitOf(person);
        return more;
    }

    public int damaged(int unit, int kind)
            throws NoSuchElementException, IllegalArgumentException, IllegalStateException {
        Unit found = unitOf(unit);
        mustBeWithin(kind, 1, LAST_DAMAGE);
        mustHold(!found.isDamaged() && !found.line.closed);
        found.damage = kind;
        return unitsInState(found.line, Unit.DAMAGED);
    }

    public int sample(int announce, int line, boolean good) throws NoSuchElementException, IllegalStateException {
        Line told = lineOf(announce, line);
        mustHold(told.announcement.hasArrived() && !told.closed && told.openSamples() > 0);
        told.verdicts++;
        if (!good) {
            told.bad = true;
        }
        return told.openSamples();
    }

    public int date(int unit, int until)
            throws NoSuchElementException, IllegalArgumentException, IllegalStateException {
        Unit found = unitOf(unit);
        mustBeWithin(until, 0, LAST_DAY);
        mustHold(!found.isDamaged() && !found.line.closed);
        found.until = until;
        found.waits = until < today;
        return found.waits ? WAITS : DONE;
    }

    public int take(int unit, int person)
            throws NoSuchElementException, IllegalArgumentException, IllegalStateException {
        Unit found = unitOf(unit);
        mustBeWithin(person, 0, LAST_PERSON);
        mustHold(found.stateNow() == Unit.WAITING && hasRight(person));
        found.waits = false;
        return found.stateNow();
    }

    public int label(int unit) throws NoSuchElementException {
        Unit found = unitOf(unit);
        if (!found.hasLabel()) {
            labelsMade++;
            found.label = labelFor(found.line.announcement.owner, labelsMade);
        }
        found.printed++;
        return found.label;
    }

    public int again(int unit) throws NoSuchElementException, IllegalStateException {
        Unit found = unitOf(unit);
        mustHold(found.hasLabel());
        found.printed++;
        return found.printed;
    }

    public int close(int announce, int line) throws NoSuchElementException, IllegalStateException {
        Line told = lineOf(announce, line);
        mustHold(told.announcement.hasArrived() && !told.closed);
        if (told.openSamples() > 0) {
            return OPEN_SAMPLES;
        }
        if (unitsInState(told, Unit.WAITING) > 0) {
            return OPEN_WAITING;
        }
        if (lacksLabel(told)) {
            return OPEN_LABEL;
        }
        told.closed = true;
        linesClosed++;
        noteDifference(told);
        return DONE;
    }

    public int closeAll(int announce) throws NoSuchElementException, IllegalStateException {
        Announcement announcement = announcementOf(announce);
        mustHold(announcement.hasArrived());
        int open = announcement.firstOpenLine();
        if (open != NONE) {
            return -open - 1;
        }
        announcement.state = Announcement.CLOSED;
        return DONE;
    }

    public void day(int day) throws IllegalArgumentException, IllegalStateException {
        mustBeWithin(day, 0, LAST_DAY);
        mustHold(day >= today);
        today = day;
    }

    public int differ(int i, int what) throws NoSuchElementException, IllegalArgumentException {
        Line line = differenceOf(i);
        switch (what) {
            case 0: return line.announcement.number;
            case 1: return line.number;
            case 2: return line.counted - line.announced;
            default: throw new IllegalArgumentException("there is no such thing to ask of a difference");
        }
    }

    public int claim(int announce, int i) throws NoSuchElementException, IllegalArgumentException {
        Announcement announcement = announcementOf(announce);
        if (i < 0) {
            throw new IllegalArgumentException("claims are counted from 0");
        }
        int before = 0;
        for (int k = 0; k < unitsMade && k < units.length; k++) {
            Unit each = units[k];
            if (each != null && each.line.announcement == announcement && each.isDamaged()) {
                if (before == i) {
                    return k + 1;
                }
                before++;
            }
        }
        return NONE;
    }

    public int unit(int unit, int what) throws NoSuchElementException, IllegalArgumentException {
        Unit found = unitOf(unit);
        switch (what) {
            case 0: return found.stateNow();
            case 1: return found.line.announcement.number;
            case 2: return found.line.number;
            case 3: return found.pieces;
            case 4: return found.lot;
            case 5: return found.until;
            case 6: return found.damage;
            case 7: return found.label;
            default: throw new IllegalArgumentException("there is no such thing to ask of a unit");
        }
    }

    public int told(int announce, int line, int what) throws NoSuchElementException, IllegalArgumentException {
        Line told = lineOf(announce, line);
        switch (what) {
            case 0: return told.good;
            case 1: return told.announced;
            case 2: return told.counted;
            case 3: return told.closed ? 1 : 0;
            case 4: return told.openSamples();
            case 5: return told.bad ? 1 : 0;
            case 6: return told.mostTaken();
            default: throw new IllegalArgumentException("there is no such thing to ask of a line");
        }
    }

    public int state(int announce, int what) throws NoSuchElementException, IllegalArgumentException {
        Announcement announcement = announcementOf(announce);
        switch (what) {
            case 0: return announcement.state;
            case 1: return announcement.owner;
            case 2: return announcement.linesTold;
            case 3: return announcement.door;
            default: throw new IllegalArgumentException("there is no such thing to ask of an announcement");
        }
    }

    public int count(int what) {
        switch (what) {
            case 0: return announcementsMade;
            case 1: return unitsMade;
            case 2: return labelsMade;
            case 3: return today;
            case 4: return linesClosed;
            default: return NONE;
        }
    }

    private static void mustBeWithin(int number, int first, int last) {
        if (number < first || number > last) {
            throw new IllegalArgumentException("a number outside its range");
        }
    }

    private static void mustHold(boolean asItIsNow) {
        if (!asItIsNow) {
            throw new IllegalStateException("not as it is now");
        }
    }

    private Announcement announcementOf(int number) {
        if (number < 1 || number > announcementsMade || number > announcements.length) {
            throw new NoSuchElementException("there is no such announcement");
        }
        Announcement found = announcements[number - 1];
        if (found == null) {
            throw new NoSuchElementException("there is no such announcement");
        }
        return found;
    }

    private Line lineOf(int announce, int number) {
        Announcement announcement = announcementOf(announce);
        if (number < 0 || number >= announcement.linesTold || number >= announcement.lines.length) {
            throw new NoSuchElementException("there is no such line");
        }
        Line found = announcement.lines[number];
        if (found == null) {
            throw new NoSuchElementException("there is no such line");
        }
        return found;
    }

    private Unit unitOf(int number) {
        if (number < 1 || number > unitsMade || number > units.length) {
            throw new NoSuchElementException("there is no such unit");
        }
        Unit found = units[number - 1];
        if (found == null) {
            throw new NoSuchElementException("there is no such unit");
        }
        return found;
    }

    private Line differenceOf(int i) {
        if (i < 0 || i >= differencesFound || i >= differences.length) {
            throw new NoSuchElementException("there are not so many differences");
        }
        Line found = differences[i];
        if (found == null) {
            throw new NoSuchElementException("there are not so many differences");
        }
        return found;
    }

    private boolean hasRight(int person) {
        return (rights & bitOf(person)) != 0;
    }

    private static int bitOf(int person) {
        return 1 << person;
    }

    private boolean isTaken(int door) {
        for (int k = 0; k < announcementsMade && k < announcements.length; k++) {
            Announcement each = announcements[k];
            if (each != null && each.standsAt(door)) {
                return true;
            }
        }
        return false;
    }

    /** The first thing that such a count breaks, or 0. */
    private static int brokenByCounting(Line line, int n, int person) {
        if (!line.announcement.hasArrived()) {
            return NOT_ARRIVED;
        }
        if (line.closed) {
            return LINE_CLOSED;
        }
        if ((line.countedBy & bitOf(person)) != 0) {
            return COUNTED_ALREADY;
        }
        return line.counted + n > line.mostTaken() ? TOO_MANY : 0;
    }

    private void makeUnits(Line line, int n, int lot) {
        for (int rest = n; rest > 0 && unitsMade < units.length; rest -= UNIT_PIECES) {
            units[unitsMade] = new Unit(line, Math.min(rest, UNIT_PIECES), lot);
            unitsMade++;
        }
    }

    private int unitsInState(Line line, int state) {
        int found = 0;
        for (int k = 0; k < unitsMade && k < units.length; k++) {
            Unit each = units[k];
            if (each != null && each.line == line && each.stateNow() == state) {
                found++;
            }
        }
        return found;
    }

    private boolean lacksLabel(Line line) {
        for (int k = 0; k < unitsMade && k < units.length; k++) {
            Unit each = units[k];
            if (each != null && each.line == line && !each.hasLabel() && !each.isDamaged()) {
                return true;
            }
        }
        return false;
    }

    /** Noted when the line closes, because its counts stay from then on. */
    private void noteDifference(Line line) {
        if (line.counted != line.announced && differencesFound < differences.length) {
            differences[differencesFound] = line;
            differencesFound++;
        }
    }

    private static int labelFor(int owner, int n) {
        int digits = owner * LABEL_NUMBERS + n;
        return digits * 10 + checkDigit(digits);
    }

    /** Goes from the sixth digit to the first, so the single weight comes first. */
    private static int checkDigit(int digits) {
        int sum = 0;
        int weight = 1;
        int rest = digits;
        for (int k = 0; k < LABEL_DIGITS; k++) {
            sum += weight * (rest % 10);
            rest /= 10;
            weight = 4 - weight;
        }
        return (10 - sum % 10) % 10;
    }

    private static final class Announcement {
        static final int ANNOUNCED = 0;
        static final int ARRIVED = 1;
        static final int WAITING = 2;
        static final int CLOSED = 3;

        final int number;
        final int owner;
        final int linesDue;
        final Line[] lines;
        int linesTold;
        int state;
        int door;

        Announcement(int number, int owner, int linesDue) {
            this.number = number;
            this.owner = owner;
            this.linesDue = linesDue;
            lines = new Line[MOST_LINES];
            state = ANNOUNCED;
            door = NONE;
        }

        boolean hasAllLines() {
            return linesTold >= linesDue || linesTold >= lines.length;
        }

        boolean hasArrived() {
            return state == ARRIVED;
        }

        boolean standsAt(int someDoor) {
            return door == someDoor && state != ANNOUNCED && state != CLOSED;
        }

        int addLine(int good, int n) {
            int which = linesTold;
            if (which >= 0 && which < lines.length) {
                lines[which] = new Line(this, which, good, n);
                linesTold++;
            }
            return which;
        }

        int firstOpenLine() {
            for (int k = 0; k < linesTold && k < lines.length; k++) {
                Line each = lines[k];
                if (each != null && !each.closed) {
                    return k;
                }
            }
            return NONE;
        }
    }

    private static final class Line {
        final Announcement announcement;
        final int number;
        final int good;
        final int announced;
        int hundredths;
        int samplesWanted;
        int verdicts;
        int counted;
        int countedBy; // one bit a person
        boolean bad;
        boolean closed;

        Line(Announcement announcement, int number, int good, int announced) {
            this.announcement = announcement;
            this.number = number;
            this.good = good;
            this.announced = announced;
        }

        int mostTaken() {
            return announced + announced * hundredths / 100;
        }

        /** Fewer may be wanted later than verdicts were told: none is open then. */
        int openSamples() {
            return Math.max(samplesWanted - verdicts, 0);
        }
    }

    private static final class Unit {
        static final int GOOD = 0;
        static final int DAMAGED = 1;
        static final int QUARANTINE = 2;
        static final int WAITING = 3;

        final Line line;
        final int pieces;
        final int lot;
        int until;
        int damage;
        int label;
        int printed;
        boolean waits;

        Unit(Line line, int pieces, int lot) {
            this.line = line;
            this.pieces = pieces;
            this.lot = lot;
            until = NONE;
        }

        boolean isDamaged() {
            return damage != 0;
        }

        boolean hasLabel() {
            return label != 0;
        }

        /** Quarantine is read from the line, so that units that come or are accepted later are in it too. */
        int stateNow() {
            if (isDamaged()) {
                return DAMAGED;
            }
            if (waits) {
                return WAITING;
            }
            return line.bad ? QUARANTINE : GOOD;
        }
    }
}
