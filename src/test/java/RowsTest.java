import java.util.function.IntFunction;

/** Rows that are empty and rows that are full: stations, shots, joins, conduits, rain, parties, the trace. */
public final class RowsTest {
    private RowsTest() {
    }

    public static void main(String[] args) {
        emptyFigures();
        withoutStations();
        withoutShots();
        withoutParties();
        stationsOnly();
        lastOnes();
        oneMore();
        fullGoesOn();
        everyJoin();
        everyConduit();
        Checks.finish();
    }

    private static void emptyFigures() {
        Cavernbook x = new Cavernbook();
        Checks.due("stations", 0, () -> x.stations());
        Checks.due("shots", 0, () -> x.shots());
        Checks.due("allSteps", 0L, () -> x.allSteps());
        Checks.arithmetic("meanRain", () -> x.meanRain());
        for (int d : new int[] {0, 500, 999}) {
            Checks.due("loops " + d, 0, () -> x.loops(d));
            Checks.due("allFaults " + d, 0L, () -> x.allFaults(d));
            Refusals.refused("blunder " + d, Refusals.NO_ELEMENT, Cavernbook::new, y -> y.blunder(d));
            Checks.due("length " + d, 0, () -> x.length(d));
            Checks.due("depth " + d, 0L, () -> x.depth(d));
            Refusals.refused("hungShare " + d, Refusals.ARITHMETIC, Cavernbook::new, y -> y.hungShare(d));
            Checks.due("isSound " + d, true, () -> x.isSound(d));
        }
        for (int h : new int[] {0, 199, 200, 400}) {
            Checks.due("water " + h, 0, () -> x.water(h));
        }
        Checks.due("rain 0", 0, () -> x.rain(0, 0));
        Checks.due("rain 199", 0, () -> x.rain(199, 0));
        Refusals.refused("meanRain of no rain", Refusals.ARITHMETIC, Cavernbook::new, y -> y.meanRain());
        Checks.due("the first station", 0, () -> x.station());
    }

    private static void eachIndex(String name, int from, int to, IntFunction<Refusals.Asked> calls,
            Refusals.Maker maker) {
        for (int i = from; i <= to; i++) {
            Refusals.refused(name + " " + i, Refusals.INDEX, maker, calls.apply(i));
        }
    }

    private static void withoutStations() {
        Refusals.Maker none = Cavernbook::new;
        eachIndex("shot", -1, 1, i -> x -> x.shot(i, 1 - i, 0, 1, 1, 1, 1, 1), none);
        eachIndex("join", -1, 1, i -> x -> x.join(i, 1 - i, 0), none);
        eachIndex("oneWith", -1, 1, i -> x -> x.oneWith(i, 0), none);
        eachIndex("isHung", -1, 1, i -> x -> x.isHung(i, 0), none);
        eachIndex("top", -1, 1, i -> x -> x.top(i, 0, 0), none);
        eachIndex("bottom", -1, 1, i -> x -> x.bottom(i, 0, 0), none);
        eachIndex("setHeight", -1, 1, i -> x -> x.setHeight(i, 1), none);
        eachIndex("conduit", -1, 1, i -> x -> x.conduit(i, 1 - i, 1, 1), none);
        eachIndex("trace", -1, 1, i -> x -> x.trace(i, 1), none);
        eachIndex("traced", -1, 1, i -> x -> x.traced(i, 0), none);
        eachIndex("peak", -1, 1, i -> x -> x.peak(i), none);
        eachIndex("party", -1, 1, i -> x -> x.party(i), none);
    }

    private static void withoutShots() {
        Refusals.Maker none = () -> {
            Cavernbook x = Checks.withStations(9);
            x.party(0);
            return x;
        };
        eachIndex("setAside", -1, 1, i -> x -> x.setAside(i, 0), none);
        eachIndex("fault", -1, 1, i -> x -> x.fault(i, 0), none);
        eachIndex("sump", -1, 1, i -> x -> x.sump(i, 1), none);
        eachIndex("isClosed", -1, 1, i -> x -> x.isClosed(i, 0), none);
        eachIndex("tell", -1, 1, i -> x -> x.tell(0, i), none);
        eachIndex("knows", -1, 1, i -> x -> x.knows(0, i), none);
        eachIndex("go", -1, 1, i -> x -> x.go(0, i), none);
    }

    private static void withoutParties() {
        Refusals.Maker none = () -> {
            Cavernbook x = Checks.withStations(2);
            x.shot(0, 1, 0, 1, 1, 1, 1, 1);
            return x;
        };
        eachIndex("tell", -1, 1, i -> x -> x.tell(i, 0), none);
        eachIndex("knows", -1, 1, i -> x -> x.knows(i, 0), none);
        eachIndex("go", -1, 1, i -> x -> x.go(i, 0), none);
        eachIndex("pause", -1, 1, i -> x -> x.pause(i, 1), none);
        eachIndex("placeOf", -1, 1, i -> x -> x.placeOf(i), none);
        eachIndex("hourOf", -1, 1, i -> x -> x.hourOf(i), none);
        eachIndex("plan", -1, 1, i -> x -> x.plan(i), none);
        eachIndex("planAt", -1, 1, i -> x -> x.planAt(i, 0), none);
        eachIndex("lastChance", -1, 1, i -> x -> x.lastChance(i), none);
    }

    /** Nine stations and nothing between them: the entrance alone is hung. */
    private static void stationsOnly() {
        Cavernbook x = Checks.withStations(9);
        for (int i = 0; i < 9; i++) {
            int s = i;
            Checks.due("oneWith " + s, s, () -> x.oneWith(s, 999));
            Checks.due("isHung " + s, s == 0, () -> x.isHung(s, 999));
            Checks.due("top " + s, s == 0 ? (Object) 0L : Refusals.NO_ELEMENT, () -> x.top(s, 2, 999));
            Checks.due("bottom " + s, s == 0 ? (Object) 1L : Refusals.NO_ELEMENT, () -> x.bottom(s, 0, 0));
            Checks.due("traced " + s, 0, () -> x.traced(s, 0));
            Checks.noElement("peak " + s, () -> x.peak(s));
            Checks.due("setHeight " + s, 0, () -> x.setHeight(s, 0));
        }
        Checks.due("loops", 0, () -> x.loops(999));
        Checks.due("allFaults", 0L, () -> x.allFaults(999));
        Checks.noElement("blunder", () -> x.blunder(999));
        Checks.due("length", 0, () -> x.length(999));
        Checks.due("depth", 0L, () -> x.depth(999));
        Checks.due("hungShare", 1.0f / 9.0f, () -> x.hungShare(999));
        Checks.due("isSound", true, () -> x.isSound(999));
        Checks.due("trace without conduits", 1, () -> x.trace(8, 7));
        Checks.due("all of it in the minute 0", 7, () -> x.traced(8, 0));
        Checks.due("none later", 0, () -> x.traced(8, 1));
    }

    private static void lastOnes() {
        Checks.due("the ninth station", 8, () -> Books.roomy().station());
        Checks.due("the 24th shot", 23, () -> Books.roomy().shot(0, 1, 0, 1, 1, 1, 1, 1));
        Checks.due("the 8th join", true, () -> Books.roomy().join(0, 1, 0));
        Checks.due("the 8th join of what was one", false, () -> Books.roomy().join(6, 7, 950));
        Checks.due("the 12th conduit", 12, () -> Books.roomy().conduit(0, 1, 1, 1));
        Checks.due("the fourth party", 3, () -> Books.roomy().party(7));
    }

    private static void oneMore() {
        Refusals.refused("a tenth station", Refusals.STATE, Books::full, x -> x.station());
        Refusals.refused("a 25th shot", Refusals.STATE, Books::full, x -> x.shot(0, 1, 0, 1, 1, 1, 1, 1));
        Refusals.refused("a ninth join", Refusals.STATE, Books::full, x -> x.join(0, 1, 0));
        Refusals.refused("a ninth join of what was one", Refusals.STATE, Books::full, x -> x.join(8, 7, 999));
        Refusals.refused("a 13th conduit", Refusals.STATE, Books::full, x -> x.conduit(0, 8, 1, 1));
        Refusals.refused("a fifth party", Refusals.STATE, Books::full, x -> x.party(8));
    }

    /** What is full can be changed and asked, up to its last number. */
    private static void fullGoesOn() {
        Cavernbook x = Books.full();
        Checks.due("9 stations", 9, () -> x.stations());
        Checks.due("24 shots", 24, () -> x.shots());
        Checks.due("the last station is one", 7, () -> x.oneWith(8, 999));
        Checks.due("the last shot", 5, () -> x.tell(3, 23));
        Checks.due("known then", true, () -> x.knows(3, 23));
        Checks.due("the one ahead is not", false, () -> x.knows(3, 22));
        Checks.due("its level", 460, () -> x.sump(23, 0));
        Checks.due("set aside", false, () -> x.setAside(23, 999));
        Checks.due("the last station's height", 100, () -> x.setHeight(8, 0));
        Checks.due("the last party", 4, () -> x.placeOf(3));
        Checks.due("it has a plan", 17, () -> x.plan(3));
        Checks.due("a trace into the last station", 1, () -> x.trace(8, 100000));
        Checks.due("in place of the trace before", 0, () -> x.traced(0, 0));
        Checks.noElement("not even a peak", () -> x.peak(0));
        for (int h = 0; h < 200; h++) {
            x.rain(h, 99);
        }
        Checks.due("rain in all hours", 99.0, () -> x.meanRain());
    }

    /** Eight joins, each of the next two: all nine stations are one, shots between them are of no use. */
    private static void everyJoin() {
        Cavernbook x = Checks.withStations(9);
        for (int i = 0; i < 24; i++) {
            x.shot(i % 8, i % 8 + 1, 0, 5, 5, 5, 10, 1);
        }
        for (int i = 8; i > 0; i--) {
            int s = i;
            Checks.due("two up to then " + s, true, () -> x.join(s, s - 1, 100 * s));
        }
        Checks.due("a length ahead of all", 240, () -> x.length(99));
        Checks.due("without three shots", 210, () -> x.length(100));
        Checks.due("without all but three", 30, () -> x.length(799));
        Checks.due("hung ahead of the last one", 1.0f, () -> x.hungShare(799));
        for (int i = 0; i < 9; i++) {
            int s = i;
            Checks.due("one with the entrance " + s, 0, () -> x.oneWith(s, 800));
            Checks.due("not on the day before " + s, s == 8 ? 8 : 0, () -> x.oneWith(s, 799));
            Checks.due("at 0 " + s, 0L, () -> x.top(s, 0, 800));
        }
        Checks.due("no loops", 0, () -> x.loops(800));
        Checks.due("no length", 0, () -> x.length(800));
        Checks.due("no depth", 0L, () -> x.depth(800));
        Checks.due("no faults", 0L, () -> x.allFaults(800));
        Checks.noElement("no blunder", () -> x.blunder(800));
        Checks.due("all are one", 1.0f, () -> x.hungShare(800));
        Checks.due("all were told", 9, () -> x.stations());
        x.party(8);
        Checks.due("a party is at the entrance", 0, () -> x.plan(0));
        Checks.due("also where it went", 0, () -> x.go(0, 23));
    }

    /** Twelve conduits of one station, which take all together; and 24 shots known by four parties. */
    private static void everyConduit() {
        Cavernbook x = Books.heights(0, 1, 0);
        for (int i = 1; i <= 12; i++) {
            int count = i;
            Checks.due("conduit " + i, count, () -> x.conduit(1, count % 2 * 2, count, count < 12 ? 8 : 12));
        }
        Checks.unsupported("beyond 100 is ahead of 12", () -> x.conduit(1, 0, 1, 1));
        Checks.due("all goes on", 2, () -> x.trace(1, 100));
        Checks.due("nothing stays", 0, () -> x.traced(1, 0));
        Checks.due("by the first", 8, () -> x.traced(2, 1));
        Checks.due("by the last", 12, () -> x.traced(0, 12));
        Checks.due("the most", 12, () -> x.peak(0));
        Checks.due("the earliest", 1, () -> x.peak(2));
        for (int i = 0; i < 24; i++) {
            x.shot(0, 1, 0, 0, 0, 0, 1, 1);
        }
        for (int p = 0; p < 4; p++) {
            int party = p;
            x.party(1);
            for (int i = 0; i < 24; i++) {
                int shot = 23 - i;
                Checks.due("told " + p + " " + shot, i + 1, () -> x.tell(party, shot));
            }
            Checks.due("the lowest of all " + p, 0, () -> x.planAt(party, 0));
        }
    }
}
