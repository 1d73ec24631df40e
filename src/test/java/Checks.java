/** Counts answers that are not the ones that are due; each test ends with finish(). */
final class Checks {
    interface Call {
        Object run();
    }

    private static int wrong = 0;
    private static int made = 0;

    private Checks() {
    }

    /** What a call answers, or the simple name of what it throws behind "throws ". */
    static Object answer(Call call) {
        try {
            return call.run();
        } catch (RuntimeException e) {
            return "throws " + e.getClass().getSimpleName();
        }
    }

    static void due(String name, Object want, Call call) {
        Object got = answer(call);
        made++;
        if (!want.equals(got)) {
            wrong++;
            System.out.println(name + " answered " + got + ", due is " + want);
        }
    }

    static void index(String name, Call call) {
        due(name, "throws IndexOutOfBoundsException", call);
    }

    static void argument(String name, Call call) {
        due(name, "throws IllegalArgumentException", call);
    }

    static void state(String name, Call call) {
        due(name, "throws IllegalStateException", call);
    }

    static void unsupported(String name, Call call) {
        due(name, "throws UnsupportedOperationException", call);
    }

    static void noElement(String name, Call call) {
        due(name, "throws NoSuchElementException", call);
    }

    static void arithmetic(String name, Call call) {
        due(name, "throws ArithmeticException", call);
    }

    static Cavernbook withStations(int count) {
        Cavernbook book = new Cavernbook();
        for (int i = 0; i < count; i++) {
            book.station();
        }
        return book;
    }

    static void finish() {
        System.out.println(made + " answers, " + wrong + " wrong");
        if (wrong > 0 || made == 0) {
            throw new AssertionError(wrong + " wrong answers of " + made);
        }
    }
}
