import java.util.NoSuchElementException;

/** Counts the answers that are not the ones that are due, and ends the program with 1 if there was one. */
final class Check {
    private static int wrong = 0;
    private static int sentences = 0;
    private static String words = "";

    private Check() {
    }

    /** A test of its own for these words of the document: what is wrong in it is told with them. */
    static void sentence(String quoted, Runnable test) {
        sentences++;
        words = quoted;
        try {
            test.run();
        } catch (RuntimeException e) {
            tell("the test ended with " + e);
        }
        words = "";
    }

    static void due(String call, int want, int got) {
        if (want != got) {
            tell(call + " answered " + got + ", due is " + want);
        }
    }

    static void bad(String call, Runnable body) {
        thrown(call, body, IllegalArgumentException.class);
    }

    static void missing(String call, Runnable body) {
        thrown(call, body, NoSuchElementException.class);
    }

    static void stuck(String call, Runnable body) {
        thrown(call, body, IllegalStateException.class);
    }

    static void end() {
        String tests = sentences == 0 ? "" : sentences + " sentences: ";
        System.out.println(tests + (wrong == 0 ? "all answers are as due" : wrong + " answers are not as due"));
        if (wrong != 0) {
            System.exit(1);
        }
    }

    static void tell(String what) {
        wrong++;
        System.out.println(words.isEmpty() ? what : "[" + words + "] " + what);
    }

    private static void thrown(String call, Runnable body, Class<? extends RuntimeException> want) {
        String got = "nothing";
        try {
            body.run();
        } catch (RuntimeException e) {
            got = e.getClass().getName();
        }
        if (!got.equals(want.getName())) {
            tell(call + " threw " + got + ", due is " + want.getName());
        }
    }
}
