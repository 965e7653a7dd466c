import java.lang.reflect.InvocationTargetException;
import java.lang.reflect.Method;
import java.lang.reflect.Modifier;
import java.util.ArrayList;
import java.util.Arrays;
import java.util.Comparator;
import java.util.List;
import java.util.Map;
import java.util.Random;
import java.util.Set;
import java.util.TreeSet;

/**
 * Long mixed runs, the same each time: every call must answer, or throw, what it does in the SecondReading.
 * The numbers of a call are chosen by what they mean, so that runs go from announcing to claims.
 */
public final class SecondReadingTest {
    private static final int RUNS = 1500;
    private static final int CALLS = 512;
    private static final int[] ODD = {
        -1, 0, 1, 5, 8, 10, 16, 17, 50, 51, 99, 100, 120, 121, 400, 401, 10000, 10001, Integer.MIN_VALUE, Integer.MAX_VALUE};

    /** What each number of a call means; a truth has no word. */
    private static final Map<String, String> MEANINGS = Map.ofEntries(
            Map.entry("announce2", "owner lines"), Map.entry("line3", "announcement good announced"),
            Map.entry("arrive3", "announcement door"), Map.entry("accept2", "announcement person"),
            Map.entry("right2", "person"), Map.entry("tolerance3", "announcement line hundredths"),
            Map.entry("wanted3", "announcement line samples"),
            Map.entry("count5", "announcement line counted lot person"), Map.entry("damaged2", "unit kind"),
            Map.entry("sample3", "announcement line"), Map.entry("date2", "unit until"),
            Map.entry("take2", "unit person"), Map.entry("label1", "unit"), Map.entry("again1", "unit"),
            Map.entry("close2", "announcement line"), Map.entry("closeAll1", "announcement"),
            Map.entry("day1", "day"), Map.entry("differ2", "which what"), Map.entry("claim2", "announcement which"),
            Map.entry("unit2", "unit what"), Map.entry("told3", "announcement line what"),
            Map.entry("state2", "announcement what"), Map.entry("count1", "what"));

    /** What the runs must have met, lest they prove little. */
    private static final String[] WORTH_MEETING = {
        "arrive3 1", "arrive3 2", "count5 8", "count5 -1", "count5 -2", "count5 -3", "count5 -4",
        "count5 throws.UnsupportedOperationException", "announce2 throws.UnsupportedOperationException",
        "date2 1", "date2 2", "take2 0", "take2 2", "close2 1", "close2 2", "close2 3", "close2 4",
        "closeAll1 1", "closeAll1 -1", "closeAll1 -2", "closeAll1 -3", "sample3 0", "sample3 4", "claim2 -1",
        "differ2 throws.IllegalArgumentException", "differ2 -1", "again1 3", "again1 throws.IllegalStateException"};

    private static final Set<String> MET = new TreeSet<>();

    private final Random random;
    private final ReceiveSteps x = new ReceiveSteps();
    private final SecondReading second = new SecondReading();
    private final List<Method> calls = new ArrayList<>();
    private final int rarely;
    private final int fewAnnouncements;
    private final int fewUnits;

    private SecondReadingTest(int run) {
        random = new Random(run);
        rarely = run % 3 == 0 ? 5 : 60;
        fewAnnouncements = 1 + random.nextInt(16);
        fewUnits = 1 + random.nextInt(120);
        for (Method method : face()) {
            boolean leadsOn = Set.of("line3", "count5", "arrive3").contains(nameOf(method));
            for (int k = random.nextInt(6) + (leadsOn ? 6 : 0); k >= 0; k--) {
                calls.add(method);
            }
        }
    }

    public static void main(String[] args) throws ReflectiveOperationException {
        for (int run = 0; run < RUNS; run++) {
            new SecondReadingTest(run).play(run);
        }
        for (String answer : WORTH_MEETING) {
            if (!MET.contains(answer)) {
                Check.tell("the runs never met " + answer);
            }
        }
        Check.end();
    }

    private static List<Method> face() {
        List<Method> all = new ArrayList<>();
        for (Method method : ReceiveSteps.class.getDeclaredMethods()) {
            if (Modifier.isPublic(method.getModifiers())) {
                all.add(method);
            }
        }
        all.sort(Comparator.comparing(SecondReadingTest::nameOf));
        return all;
    }

    private static String nameOf(Method method) {
        return method.getName() + method.getParameterCount();
    }

    private void play(int run) throws ReflectiveOperationException {
        boolean large = run % 4 == 0;
        for (int call = large ? openLarge() : 0; call < CALLS; call++) {
            Method method = calls.get(random.nextInt(calls.size()));
            Object[] with = numbers(method);
            String got = answer(method, x, with);
            String due = answer(twin(method), second, with);
            MET.add(nameOf(method) + " " + due);
            if (!got.equals(due)) {
                Check.tell("run " + run + ", call " + call + ": " + method.getName() + Arrays.toString(with)
                        + " answered " + got + ", due is " + due);
                return;
            }
        }
    }

    /** So much is announced, and so much of it counted, that soon the units do not suffice: how many calls it took. */
    private int openLarge() throws ReflectiveOperationException {
        int made = 0;
        for (int a = 1; a <= 4; a++) {
            both("announce", a, 4);
            for (int l = 0; l < 4; l++) {
                both("line", a, l, 400);
            }
            x.arrive(a, a - 1, true);
            second.arrive(a, a - 1, true);
            for (int l = 0; l < 3; l++) {
                both("count", a, l, 400, l, 0);
            }
            made += 9;
        }
        return made;
    }

    private void both(String name, Object... with) throws ReflectiveOperationException {
        Class<?>[] numbers = new Class<?>[with.length];
        Arrays.fill(numbers, int.class);
        Method method = ReceiveSteps.class.getMethod(name, numbers);
        method.invoke(x, with);
        twin(method).invoke(second, with);
    }

    private static Method twin(Method method) throws ReflectiveOperationException {
        return SecondReading.class.getDeclaredMethod(method.getName(), method.getParameterTypes());
    }

    private static String answer(Method method, Object object, Object[] with) throws ReflectiveOperationException {
        try {
            return String.valueOf(method.invoke(object, with));
        } catch (InvocationTargetException e) {
            return "throws." + e.getCause().getClass().getSimpleName();
        }
    }

    private Object[] numbers(Method method) {
        Object[] with = new Object[method.getParameterCount()];
        String[] meanings = MEANINGS.get(nameOf(method)).split(" ");
        for (int k = 0; k < with.length; k++) {
            if (k >= meanings.length) {
                with[k] = random.nextInt(3) > 0;
            } else {
                with[k] = random.nextInt(rarely) > 0 ? likely(meanings[k]) : odd(meanings[k]);
            }
        }
        return with;
    }

    /** A day far ahead would end all others of the run. */
    private int odd(String meaning) {
        int number = ODD[random.nextInt(ODD.length)];
        boolean farAhead = meaning.equals("day") && number >= 99 && random.nextInt(20) > 0;
        return farAhead ? second.count(3) : number;
    }

    private int likely(String meaning) {
        switch (meaning) {
            case "announcement": return 1 + random.nextInt(Math.max(1, Math.min(second.count(0), fewAnnouncements)));
            case "unit": return 1 + random.nextInt(Math.max(1, Math.min(second.count(1), fewUnits)));
            case "owner": case "person": return random.nextInt(8);
            case "lines": return 1 + random.nextInt(4);
            case "line": case "door": return random.nextInt(4);
            case "good": return random.nextInt(10);
            case "announced": return random.nextBoolean() ? random.nextInt(401) : 50 * random.nextInt(9);
            case "counted": return 1 + random.nextInt(random.nextBoolean() ? 400 : 60);
            case "lot": return random.nextInt(100);
            case "hundredths": return random.nextInt(51);
            case "samples": return random.nextInt(6);
            case "kind": return 1 + random.nextInt(9);
            case "until": return Math.max(0, second.count(3) - 5 + random.nextInt(10));
            case "day": return second.count(3) - 1 + random.nextInt(5);
            case "which": return random.nextInt(5);
            case "what": return random.nextInt(8);
            default: throw new AssertionError("no meaning: " + meaning);
        }
    }
}
