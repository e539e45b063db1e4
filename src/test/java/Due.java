import java.util.function.Supplier;

/** Compares answers with those that are due, and ends a test. */
final class Due {
    private int compared = 0;
    private int wrong = 0;

    void same(String what, Object got, Object want) {
        compared++;
        if (!got.equals(want)) {
            wrong++;
            System.out.println(what + " answered " + got + ", due is " + want);
        }
    }

    /** The call throws exactly this exception, and the device holds the same before and after it. */
    void refused(String what, Bootstay device, Class<? extends RuntimeException> due, Supplier<Object> call) {
        String before = Inside.state(device);
        same(what, answer(call), "throws " + due.getSimpleName());
        same(what + ": what the device holds then", Inside.state(device), before);
    }

    static Object answer(Supplier<Object> call) {
        try {
            return call.get();
        } catch (RuntimeException e) {
            return "throws " + e.getClass().getSimpleName();
        }
    }

    void end(String test) {
        System.out.println(test + ": " + compared + " answers compared, " + wrong + " wrong");
        if (wrong > 0 || compared == 0) {
            System.exit(1);
        }
    }
}
