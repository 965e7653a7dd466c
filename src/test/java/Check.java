import java.io.IOException;
import java.nio.file.Files;
import java.nio.file.Path;
import java.util.function.Consumer;
import java.util.function.Supplier;
import java.util.function.ToIntFunction;

/** What all tests of the project share: answers and refusals are compared, and main ends with 1 if one is wrong. */
final class Check {
    private static final Path DOCUMENT = Path.of("../shared/DOC.md");

    private static int wrong = 0;
    private static String sentence = "";

    private Check() {
    }

    static void due(String call, long got, long want) {
        if (got != want) {
            tell(call + " answered " + got + ", due is " + want);
        }
    }

    static void tell(String what) {
        wrong++;
        System.out.println(sentence.isEmpty() ? what : "\"" + sentence + "\": " + what);
    }

    static void end() {
        System.out.println(wrong == 0 ? "all answers are as due" : wrong + " answers are not as due");
        if (wrong != 0) {
            System.exit(1);
        }
    }

    /** A test of one sentence of the document, which is told beside each wrong answer. */
    static void sentence(String words, Runnable test) {
        sentence = words;
        if (!standsInDocument(words)) {
            tell("the document does not say so");
        }
        test.run();
        sentence = "";
    }

    /** Without the document at hand the tests of its sentences are still worth running. */
    private static boolean standsInDocument(String words) {
        try {
            return !Files.exists(DOCUMENT) || Files.readString(DOCUMENT).contains(words);
        } catch (IOException e) {
            return true;
        }
    }

    /** The call throws exactly this class, and the object then answers as one that was never so called. */
    static void refused(String call, Class<?> due, Supplier<ReceiveSteps> maker, Consumer<ReceiveSteps> action) {
        Class<?> got = thrownBy(maker.get(), action);
        if (got != due) {
            tell(call + " threw " + got + ", due is " + due);
        }
        unchanged(call, maker, x -> thrownBy(x, action));
    }

    private static Class<?> thrownBy(ReceiveSteps x, Consumer<ReceiveSteps> action) {
        try {
            action.accept(x);
            return null;
        } catch (RuntimeException e) {
            return e.getClass();
        }
    }

    /** The call answers this, and the object then answers as one that was never so called. */
    static void unchanged(String call, int due, Supplier<ReceiveSteps> maker, ToIntFunction<ReceiveSteps> action) {
        due(call, action.applyAsInt(maker.get()), due);
        unchanged(call, maker, action::applyAsInt);
    }

    static void unchanged(String call, Supplier<ReceiveSteps> maker, Consumer<ReceiveSteps> action) {
        for (int part = 0; part < Portrait.PARTS; part++) {
            ReceiveSteps called = maker.get();
            action.accept(called);
            String got = Portrait.part(part, called);
            String want = Portrait.part(part, maker.get());
            if (!got.equals(want)) {
                tell(call + " changed the object: " + got + "instead of " + want);
            }
        }
    }
}
