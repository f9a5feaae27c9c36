import java.util.function.Consumer;
import java.util.function.Supplier;

/** What the tests share: it compares answers, and looks after calls that must throw and change nothing. */
final class Check {
    private static int wrong = 0;

    private Check() {
    }

    static void due(String call, Object got, Object want) {
        if (!want.equals(got)) {
            wrong++;
            System.out.println(call + " answered " + got + ", due is " + want);
        }
    }

    /**
     * Makes two houses alike, does the call on one of them, which must throw just this exception,
     * and then looks whether both still answer alike.
     */
    static void refused(String call, Supplier<Keyceremony> recipe, Consumer<Keyceremony> doing,
            Class<? extends RuntimeException> want) {
        Keyceremony touched = recipe.get();
        Keyceremony untouched = recipe.get();
        due(call, thrownBy(() -> doing.accept(touched)), want.getSimpleName());
        due("after " + call + " the house", Probe.all(touched), Probe.all(untouched));
    }

    static String thrownBy(Runnable call) {
        try {
            call.run();
            return "nothing";
        } catch (RuntimeException e) {
            return e.getClass().getSimpleName();
        }
    }

    static void end(String test) {
        System.out.println(wrong == 0 ? test + ": all answers are as due" : test + ": " + wrong + " answers are not as due");
        if (wrong != 0) {
            System.exit(1);
        }
    }
}
