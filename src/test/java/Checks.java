import java.util.function.Supplier;

/** Compares answers with those that are due, and ends a test with exit code 1 if one is wrong. */
final class Checks {
    private int wrong = 0;
    private int made = 0;

    void due(String call, Object got, Object want) {
        made++;
        if (!want.equals(got)) {
            wrong++;
            System.out.println(call + " answered " + got + ", due is " + want);
        }
    }

    void dueThrow(String call, Class<? extends RuntimeException> want, Supplier<?> made) {
        due(call, answer(made), "throws." + want.getSimpleName());
    }

    /** What a call answers or, by its exact class, what it throws. */
    static Object answer(Supplier<?> call) {
        try {
            return call.get();
        } catch (RuntimeException e) {
            return "throws." + e.getClass().getSimpleName();
        }
    }

    void end() {
        System.out.println(wrong == 0 ? made + " answers are as due"
                : wrong + " of " + made + " answers are not as due");
        if (wrong != 0) {
            System.exit(1);
        }
    }
}
