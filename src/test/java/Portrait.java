/**
 * All that an object answers, and what it then answers to calls that show its hidden state. Each part is taken of
 * an object of its own, because some parts change it, and so that none gets more than 512 calls.
 */
final class Portrait {
    private static final int UNIT_PARTS = 8;
    private static final int OTHER_PARTS = 8;
    private static final int PERSONS = 8;
    private static final int DOORS = 4;
    static final int PARTS = OTHER_PARTS + UNIT_PARTS + PERSONS + DOORS;

    private final ReceiveSteps x;
    private final StringBuilder text = new StringBuilder();

    private Portrait(ReceiveSteps x) {
        this.x = x;
    }

    static String part(int part, ReceiveSteps x) {
        Portrait portrait = new Portrait(x);
        if (part < OTHER_PARTS) {
            portrait.other(part);
        } else if (part < OTHER_PARTS + UNIT_PARTS) {
            portrait.units(part - OTHER_PARTS);
        } else if (part < OTHER_PARTS + UNIT_PARTS + PERSONS) {
            portrait.rightOf(part - OTHER_PARTS - UNIT_PARTS);
        } else {
            portrait.door(part - OTHER_PARTS - UNIT_PARTS - PERSONS);
        }
        return portrait.text.toString();
    }

    private void other(int part) {
        switch (part) {
            case 0: counts(); break;
            case 1: lines(); break;
            case 2: claims(); break;
            case 3: differences(); break;
            case 4: prints(); break;
            case 5: whoCounted(); break;
            case 6: samples(); break;
            default: next(); break;
        }
    }

    private String add(String name, int... with) {
        Call call = new Call(name, with);
        String answer = call.answer(x);
        text.append(call).append('=').append(answer).append(' ');
        return answer;
    }

    private void counts() {
        for (int what = 0; what < 5; what++) {
            add("count", what);
        }
        for (int a = 1; a <= x.count(0); a++) {
            for (int what = 0; what < 4; what++) {
                add("state", a, what);
            }
        }
    }

    private void lines() {
        for (int a = 1; a <= x.count(0); a++) {
            for (int l = 0; l < x.state(a, 2); l++) {
                for (int what = 0; what < 7; what++) {
                    add("told", a, l, what);
                }
            }
        }
    }

    private void units(int what) {
        for (int u = 1; u <= x.count(1); u++) {
            add("unit", u, what);
        }
    }

    private void claims() {
        for (int a = 1; a <= x.count(0); a++) {
            for (int i = 0; i < 4; i++) {
                add("claim", a, i);
            }
        }
    }

    private void differences() {
        for (int i = 0; i < x.count(4); i++) {
            for (int what = 0; what < 3; what++) {
                add("differ", i, what);
            }
        }
    }

    private void prints() {
        for (int u = 1; u <= x.count(1); u++) {
            add("again", u);
        }
    }

    private void whoCounted() {
        for (int a = 1; a <= x.count(0); a++) {
            for (int l = 0; l < x.state(a, 2); l++) {
                for (int person = 0; person < PERSONS; person++) {
                    add("countPieces", a, l, 1, 0, person);
                }
            }
        }
    }

    private void samples() {
        for (int a = 1; a <= x.count(0); a++) {
            for (int l = 0; l < x.state(a, 2); l++) {
                add("sample", a, l, 1);
                add("wanted", a, l, 5);
                add("told", a, l, 4);
            }
        }
    }

    /** The next numbers of lines, announcements, labels and prints, and what is left to be closed. */
    private void next() {
        for (int a = 1; a <= x.count(0); a++) {
            for (int l = 0; l < x.state(a, 2); l++) {
                add("close", a, l);
            }
            add("closeAll", a);
            add("line", a, 0, 0);
        }
        for (int u = 1; u <= x.count(1); u++) {
            add("label", u);
            add("again", u);
        }
        add("announce", 0, 1);
    }

    /** By one more that nobody knew of, where there is room, and by what waits. */
    private void rightOf(int person) {
        String stranger = newcomer();
        if (!stranger.isEmpty()) {
            for (int door = 0; door < DOORS; door++) {
                add("arrive", Integer.parseInt(stranger), door, 0);
            }
            add("accept", Integer.parseInt(stranger), person);
        }
        for (int a = 1; a <= x.count(0); a++) {
            add("accept", a, person);
        }
        for (int u = 1; u <= x.count(1); u++) {
            add("take", u, person);
        }
    }

    private void door(int door) {
        for (int a = 1; a <= x.count(0); a++) {
            add("arrive", a, door, 1);
        }
        String another = newcomer();
        if (!another.isEmpty()) {
            add("arrive", Integer.parseInt(another), door, 1);
        }
    }

    private String newcomer() {
        String number = add("announce", 0, 1);
        if (number.startsWith("throws.")) {
            return "";
        }
        add("line", Integer.parseInt(number), 0, 0);
        return number;
    }
}
