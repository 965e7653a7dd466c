import java.util.function.IntSupplier;

/** All that an object of a few units answers, then what it answers to calls that show its hidden state. */
final class Portrait {
    private final ReceiveSteps x;
    private final StringBuilder text = new StringBuilder();

    private Portrait(ReceiveSteps x) {
        this.x = x;
    }

    static String of(ReceiveSteps x) {
        Portrait portrait = new Portrait(x);
        portrait.counts();
        portrait.announcements();
        portrait.units();
        portrait.differences();
        portrait.hidden();
        return portrait.text.toString();
    }

    private void add(String name, IntSupplier call) {
        text.append(' ').append(name).append('=');
        try {
            text.append(call.getAsInt());
        } catch (RuntimeException e) {
            text.append(e.getClass().getSimpleName());
        }
    }

    private void counts() {
        for (int what = 0; what < 5; what++) {
            int asked = what;
            add("count" + what, () -> x.count(asked));
        }
    }

    private void announcements() {
        for (int a = 1; a <= x.count(0); a++) {
            int announce = a;
            for (int what = 0; what < 4; what++) {
                int asked = what;
                add("state" + a + "." + what, () -> x.state(announce, asked));
            }
            for (int l = 0; l < x.state(a, 2); l++) {
                for (int what = 0; what < 7; what++) {
                    int line = l;
                    int asked = what;
                    add("told" + a + "." + l + "." + what, () -> x.told(announce, line, asked));
                }
            }
            add("claim" + a, () -> x.claim(announce, 0));
            add("claim" + a, () -> x.claim(announce, 1));
        }
    }

    private void units() {
        for (int u = 1; u <= x.count(1); u++) {
            for (int what = 0; what < 8; what++) {
                int unit = u;
                int asked = what;
                add("unit" + u + "." + what, () -> x.unit(unit, asked));
            }
        }
    }

    private void differences() {
        for (int i = 0; i < 2; i++) {
            for (int what = 0; what < 3; what++) {
                int which = i;
                int asked = what;
                add("differ" + i + "." + what, () -> x.differ(which, asked));
            }
        }
    }

    /** Prints, rights, and who counted. */
    private void hidden() {
        for (int u = 1; u <= x.count(1); u++) {
            int unit = u;
            add("again" + u, () -> x.again(unit));
            add("take" + u, () -> x.take(unit, 2));
        }
        for (int a = 1; a <= x.count(0); a++) {
            int announce = a;
            add("accept" + a, () -> {
                x.accept(announce, 2);
                return 1;
            });
            add("wanted" + a, () -> {
                x.wanted(announce, 0, 5);
                return x.told(announce, 0, 4);
            });
            for (int p = 0; p < 4; p++) {
                int person = p;
                add("count" + a + "." + p, () -> x.count(announce, 0, 1, 0, person));
            }
            add("line" + a, () -> x.line(announce, 0, 0));
        }
    }
}
