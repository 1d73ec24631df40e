import java.util.ArrayList;
import java.util.List;

/** All that can be seen of a book, in parts, so that no object is asked more than 512 calls. */
final class Looks {
    static final int PARTS = 3;
    private static final int[] DAYS = {0, 500, 999};
    private static final int[] MINUTES = {0, 1, 3, 36};
    private static final int[] HOURS = {0, 1, 2, 60, 199, 400};

    private final Cavernbook book;
    private final List<String> seen = new ArrayList<>();

    private Looks(Cavernbook x) {
        book = x;
    }

    /** Of a part that is asked only, or, the last one, of calls that tell more and answer what was told before. */
    static List<String> at(Cavernbook x, int part) {
        Looks looks = new Looks(x);
        if (part == 0) {
            looks.atDays();
        } else if (part == 1) {
            looks.atWaterAndParties();
        } else {
            looks.atWhatIsTold();
        }
        return looks.seen;
    }

    private void see(String name, Checks.Call call) {
        seen.add(name + ": " + Checks.answer(call));
    }

    private void atDays() {
        see("stations", () -> book.stations());
        see("shots", () -> book.shots());
        see("allSteps", () -> book.allSteps());
        for (int d : DAYS) {
            for (int i = 0; i < 9; i++) {
                atStation(i, d);
            }
            for (int i = 0; i < 24; i++) {
                int k = i;
                see("fault " + k + " " + d, () -> book.fault(k, d));
            }
            see("loops " + d, () -> book.loops(d));
            see("allFaults " + d, () -> book.allFaults(d));
            see("blunder " + d, () -> book.blunder(d));
            see("length " + d, () -> book.length(d));
            see("depth " + d, () -> book.depth(d));
            see("hungShare " + d, () -> book.hungShare(d));
            see("isSound " + d, () -> book.isSound(d));
        }
    }

    private void atStation(int i, int d) {
        see("oneWith " + i + " " + d, () -> book.oneWith(i, d));
        see("isHung " + i + " " + d, () -> book.isHung(i, d));
        for (int axis = 0; axis < 3; axis++) {
            int a = axis;
            see("top " + i + " " + a + " " + d, () -> book.top(i, a, d));
            see("bottom " + i + " " + a + " " + d, () -> book.bottom(i, a, d));
        }
    }

    private void atWaterAndParties() {
        see("meanRain", () -> book.meanRain());
        for (int i = 0; i < 9; i++) {
            int s = i;
            see("peak " + s, () -> book.peak(s));
            for (int m : MINUTES) {
                see("traced " + s + " " + m, () -> book.traced(s, m));
            }
        }
        for (int h : HOURS) {
            see("water " + h, () -> book.water(h));
            for (int i = 0; i < 24; i++) {
                int k = i;
                see("isClosed " + k + " " + h, () -> book.isClosed(k, h));
            }
        }
        for (int i = 0; i < 4; i++) {
            atParty(i);
        }
    }

    private void atParty(int p) {
        see("placeOf " + p, () -> book.placeOf(p));
        see("hourOf " + p, () -> book.hourOf(p));
        see("plan " + p, () -> book.plan(p));
        see("lastChance " + p, () -> book.lastChance(p));
        for (int i = 0; i < 4; i++) {
            int index = i;
            see("planAt " + p + " " + index, () -> book.planAt(p, index));
        }
        for (int i = 0; i < 24; i += 2) {
            int k = i;
            see("knows " + p + " " + k, () -> book.knows(p, k));
        }
    }

    private void atWhatIsTold() {
        for (int i = 0; i < 24; i++) {
            int k = i;
            see("sump before " + k, () -> book.sump(k, 0));
            see("setAside before " + k, () -> book.setAside(k, 999));
        }
        for (int h : HOURS) {
            see("rain before " + h, () -> book.rain(h, 0));
        }
        for (int i = 0; i < 4; i++) {
            int p = i;
            see("tell " + p, () -> book.tell(p, 0));
            see("pause " + p, () -> book.pause(p, 1));
        }
        for (int i = 0; i < 9; i++) {
            see("join once more " + i, () -> book.join(0, 1, 999));
        }
        see("conduit", () -> book.conduit(0, 1, 1, 1));
        see("trace", () -> book.trace(0, 100000));
        for (int i = 0; i < 9; i++) {
            int s = i;
            see("setHeight before " + s, () -> book.setHeight(s, 999 - s));
        }
        see("party", () -> book.party(0));
        see("shot", () -> book.shot(0, 1, 0, 1, 1, 1, 1, 1));
        see("station", () -> book.station());
    }
}
