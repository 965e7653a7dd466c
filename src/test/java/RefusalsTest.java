import java.util.ArrayList;
import java.util.Arrays;
import java.util.HashMap;
import java.util.List;
import java.util.Map;
import java.util.Random;
import java.util.TreeSet;

/**
 * Long mixed runs, the same each time. One object gets all calls, its twin only those that were not refused and
 * did not tell what they break: from then on both must answer the same, for what is refused changes nothing.
 */
public final class RefusalsTest {
    private static final int RUNS = 600;
    private static final int CALLS = 512;
    private static final int[] EXTREMES = {-1, 0, 5, 8, 17, 51, 100, 121, 401, 10001, Integer.MIN_VALUE, Integer.MAX_VALUE};
    private static final String NONE = "NoSuchElementException";
    private static final String RANGE = "IllegalArgumentException";
    private static final String NOW = "IllegalStateException";
    private static final String ROOM = "UnsupportedOperationException";

    /** What each call may throw, and that the runs have met all of it. */
    private static final Map<String, List<String>> ALLOWED = new HashMap<>();
    private static final Map<String, TreeSet<String>> MET = new HashMap<>();

    public static void main(String[] args) {
        allow("line arrive accept tolerance wanted damaged date take", NONE, RANGE, NOW);
        allow("announce", RANGE, ROOM);
        allow("right", RANGE);
        allow("countPieces", NONE, RANGE, ROOM);
        allow("sample again close closeAll", NONE, NOW);
        allow("label", NONE);
        allow("day", RANGE, NOW);
        allow("differ claim unit told state", NONE, RANGE);
        allow("count");
        for (int run = 0; run < RUNS; run++) {
            play(run);
        }
        for (String name : ALLOWED.keySet()) {
            if (!MET.get(name).equals(new TreeSet<>(ALLOWED.get(name)))) {
                Check.tell("the runs met of " + name + " only " + MET.get(name));
            }
        }
        Check.end();
    }

    private static void allow(String names, String... exceptions) {
        for (String name : names.split(" ")) {
            ALLOWED.put(name, Arrays.asList(exceptions));
            MET.put(name, new TreeSet<>());
        }
    }

    private static void play(int run) {
        Random random = new Random(run);
        ReceiveSteps x = new ReceiveSteps();
        ReceiveSteps twin = new ReceiveSteps();
        List<String> names = new ArrayList<>(ALLOWED.keySet());
        names.sort(null);
        for (int k = 0; k < 12; k++) {
            names.add("line");
            names.add("countPieces");
            names.add(k % 2 == 0 ? "arrive" : "announce");
            names.add(k % 2 == 0 ? "label" : "tolerance");
        }
        int opened = 0;
        if (run % 3 == 0) {
            opened = openLarge(x);
            openLarge(twin);
        }
        for (int call = opened; call < CALLS; call++) {
            String name = names.get(random.nextInt(names.size()));
            int[] with = arguments(name, random, 3 + run % 15, run % 2 == 0 ? 4 : 40);
            Call made = new Call(name, with);
            String got = made.answer(x);
            judge(run, name, made, got);
            if (!isRefused(name, got)) {
                String other = made.answer(twin);
                if (!got.equals(other)) {
                    Check.tell("run " + run + ": " + made + " answered " + got
                            + ", and " + other + " without what was refused");
                    return;
                }
            }
        }
    }

    /** So much to count that the units do not suffice: how many calls it took. */
    private static int openLarge(ReceiveSteps x) {
        for (int a = 1; a <= 3; a++) {
            x.announce(a, 4);
            for (int l = 0; l < 4; l++) {
                x.line(a, l, 400);
                x.tolerance(a, l, 50);
            }
            x.arrive(a, a, true);
        }
        return 30;
    }

    private static void judge(int run, String name, Call made, String got) {
        if (!got.startsWith("throws.")) {
            return;
        }
        String thrown = got.substring("throws.".length());
        MET.get(name).add(thrown);
        if (!ALLOWED.get(name).contains(thrown)) {
            Check.tell("run " + run + ": " + made + " threw " + thrown);
        }
    }

    private static boolean isRefused(String name, String got) {
        boolean broken = name.equals("countPieces") || name.equals("closeAll");
        boolean open = name.equals("close") && !got.equals("1");
        return got.startsWith("throws.") || broken && got.startsWith("-") || open;
    }

    /** Mostly within the ranges, of so many announcements; one in so many is anything. */
    private static int[] arguments(String name, Random random, int announcements, int rarely) {
        int announce = 1 + random.nextInt(announcements);
        int line = random.nextInt(4);
        int unit = 1 + random.nextInt(30);
        int[] with = {announce, line, random.nextInt(6), random.nextInt(100), random.nextInt(8)};
        switch (name) {
            case "announce": with[0] = random.nextInt(8); with[1] = 1 + random.nextInt(2); break;
            case "line": with[2] = random.nextInt(401); break;
            case "arrive": with[1] = random.nextInt(4); break;
            case "right": with[0] = random.nextInt(8); break;
            case "tolerance": with[2] = random.nextInt(51); break;
            case "countPieces": with[2] = 1 + random.nextInt(random.nextBoolean() ? 400 : 120); break;
            case "damaged": with[0] = unit; with[1] = 1 + random.nextInt(9); break;
            case "date": with[0] = unit; with[1] = random.nextInt(100); break;
            case "take": case "unit": with[0] = unit; with[1] = random.nextInt(8); break;
            case "label": case "again": with[0] = unit; break;
            case "day": with[0] = random.nextInt(200); break;
            case "differ": case "count": with[0] = random.nextInt(6); break;
            default: break;
        }
        if (random.nextInt(rarely) == 0) {
            with[random.nextInt(5)] = EXTREMES[random.nextInt(EXTREMES.length)];
        }
        return with;
    }
}
