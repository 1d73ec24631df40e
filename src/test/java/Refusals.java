import java.util.ArrayList;
import java.util.List;

/** Calls that throw: which exception, and that nothing has changed by them. */
final class Refusals {
    static final String INDEX = "throws IndexOutOfBoundsException";
    static final String ARGUMENT = "throws IllegalArgumentException";
    static final String STATE = "throws IllegalStateException";
    static final String UNSUPPORTED = "throws UnsupportedOperationException";
    static final String NO_ELEMENT = "throws NoSuchElementException";
    static final String ARITHMETIC = "throws ArithmeticException";

    interface Maker {
        Cavernbook make();
    }

    interface Asked {
        Object of(Cavernbook x);
    }

    private Refusals() {
    }

    /** A book after the refused call, and one without it, are compared in all that can be seen of them. */
    static void refused(String name, String refusal, Maker maker, Asked call) {
        for (int part = 0; part < Looks.PARTS; part++) {
            Cavernbook asked = maker.make();
            Checks.due(name, refusal, () -> call.of(asked));
            List<String> seen = Looks.at(asked, part);
            List<String> want = Looks.at(maker.make(), part);
            Checks.due(name + " changes nothing", new ArrayList<String>(), () -> differences(seen, want));
        }
    }

    private static List<String> differences(List<String> seen, List<String> want) {
        List<String> found = new ArrayList<>();
        for (int i = 0; i < want.size(); i++) {
            if (!want.get(i).equals(seen.get(i))) {
                found.add(seen.get(i) + ", due is " + want.get(i));
            }
        }
        return found;
    }
}
