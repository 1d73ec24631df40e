/** Promises 16 to 24: heights, conduits, traces, rain, water and sumps. */
public final class WaterTest {
    private WaterTest() {
    }

    public static void main(String[] args) {
        heights();
        heightsOfOthers();
        conduits();
        conduitOrder();
        traces();
        longestTrace();
        traceExceptions();
        rainAndWater();
        waterThatStays();
        sumps();
        Checks.finish();
    }

    private static void heights() {
        Cavernbook x = Checks.withStations(3);
        Checks.due("0 at first", 0, () -> x.setHeight(0, 999));
        Checks.due("what was told", 999, () -> x.setHeight(0, 10));
        Checks.index("station 3", () -> x.setHeight(3, -1));
        Checks.index("station -1", () -> x.setHeight(-1, 0));
        Checks.argument("height -1", () -> x.setHeight(0, -1));
        Checks.argument("height 1000", () -> x.setHeight(0, 1000));
        x.setHeight(1, 5);
        x.conduit(0, 1, 1, 1);
        x.conduit(1, 2, 1, 1);
        Checks.unsupported("up to the upper one", () -> x.setHeight(1, 10));
        Checks.unsupported("down to the lower one", () -> x.setHeight(1, 0));
        Checks.unsupported("the upper one down", () -> x.setHeight(0, 5));
        Checks.unsupported("the lower one up", () -> x.setHeight(2, 5));
        Checks.argument("range ahead of conduits", () -> x.setHeight(0, -1));
        Checks.due("nothing changed", 5, () -> x.setHeight(1, 9));
        Checks.due("just above", 9, () -> x.setHeight(1, 1));
        Checks.due("as it is", 1, () -> x.setHeight(1, 1));
    }

    /** A height is held against the conduits of its own station only, whatever their numbers. */
    private static void heightsOfOthers() {
        int[][] ways = {{0, 1, 2}, {0, 2, 1}, {1, 0, 2}, {1, 2, 0}, {2, 0, 1}, {2, 1, 0}};
        for (int[] w : ways) {
            Cavernbook x = Checks.withStations(3);
            String name = "of " + w[2] + " beside " + w[0] + " to " + w[1];
            x.setHeight(w[0], 600);
            x.setHeight(w[1], 400);
            x.conduit(w[0], w[1], 1, 1);
            Checks.due("least " + name, 0, () -> x.setHeight(w[2], 0));
            Checks.due("greatest " + name, 0, () -> x.setHeight(w[2], 999));
            Checks.due("between " + name, 999, () -> x.setHeight(w[2], 500));
            Checks.unsupported("the upper one " + name, () -> x.setHeight(w[0], 400));
            Checks.due("the upper one, just above " + name, 600, () -> x.setHeight(w[0], 401));
            Checks.unsupported("the lower one " + name, () -> x.setHeight(w[1], 401));
            Checks.due("the lower one far below " + name, 400, () -> x.setHeight(w[1], 0));
        }
    }

    private static void conduits() {
        Cavernbook x = Checks.withStations(3);
        x.setHeight(0, 2);
        x.setHeight(1, 1);
        Checks.due("first", 1, () -> x.conduit(0, 1, 1, 60));
        Checks.unsupported("more than 100", () -> x.conduit(0, 2, 1, 41));
        Checks.due("just 100", 2, () -> x.conduit(0, 2, 99, 40));
        Checks.unsupported("more than 100 by one", () -> x.conduit(0, 1, 1, 1));
        Checks.due("of another station", 3, () -> x.conduit(1, 2, 1, 100));
        Checks.unsupported("up", () -> x.conduit(1, 0, 1, 1));
        Checks.unsupported("the same height", () -> x.conduit(2, 2, 1, 1));
        Checks.index("from 3", () -> x.conduit(3, 0, 0, 1));
        Checks.index("from -1", () -> x.conduit(-1, 0, 1, 1));
        Checks.index("to 3", () -> x.conduit(0, 3, 1, 0));
        Checks.index("to -1", () -> x.conduit(0, -1, 1, 1));
        Checks.argument("minutes 0", () -> x.conduit(0, 1, 0, 1));
        Checks.argument("minutes 100", () -> x.conduit(0, 1, 100, 1));
        Checks.argument("hundredths 0", () -> x.conduit(2, 0, 1, 0));
        Checks.argument("hundredths 101", () -> x.conduit(2, 0, 1, 101));
        Checks.argument("hundredths far beyond", () -> x.conduit(0, 1, 1, Integer.MAX_VALUE));
    }

    private static void conduitOrder() {
        Cavernbook x = Checks.withStations(2);
        x.setHeight(1, 1);
        for (int i = 1; i <= 12; i++) {
            int count = i;
            Checks.due("conduit " + i, count, () -> x.conduit(1, 0, 1, 2));
        }
        Checks.state("a 13th", () -> x.conduit(1, 0, 1, 2));
        Checks.unsupported("up, ahead of the 13th", () -> x.conduit(0, 1, 1, 1));
        Checks.unsupported("more than 100, ahead of the 13th", () -> x.conduit(1, 0, 1, 77));
        Checks.argument("range, ahead of the 13th", () -> x.conduit(1, 0, 1, 101));
        Checks.index("no station, ahead of the 13th", () -> x.conduit(1, 2, 1, 1));
        Checks.due("each is rounded down", 1, () -> x.trace(1, 49));
        Checks.due("nothing went", 49, () -> x.traced(1, 0));
        Checks.due("one each", 2, () -> x.trace(1, 50));
        Checks.due("what stays", 38, () -> x.traced(1, 0));
        Checks.due("what went", 12, () -> x.traced(0, 1));
    }

    /** From 0 to 2 in 4 minutes over 1 and by itself: what comes in one minute is one amount. */
    private static void traces() {
        Cavernbook x = Checks.withStations(4);
        Checks.due("ahead of all", 0, () -> x.traced(0, 0));
        x.setHeight(0, 30);
        x.setHeight(1, 20);
        x.setHeight(2, 10);
        x.conduit(0, 1, 1, 50);
        x.conduit(0, 2, 4, 50);
        x.conduit(1, 2, 3, 100);
        x.conduit(2, 3, 2, 50);
        Checks.due("two stations", 2, () -> x.trace(0, 6));
        Checks.due("nothing at 0", 0, () -> x.traced(0, 0));
        Checks.due("nothing stays at 1", 0, () -> x.traced(1, 1));
        Checks.due("half of one amount of 6", 3, () -> x.traced(2, 4));
        Checks.due("the other half", 3, () -> x.traced(3, 6));
        Checks.due("not later", 0, () -> x.traced(3, 7));
        Checks.due("peak", 6, () -> x.peak(3));
        Checks.noElement("no peak", () -> x.peak(0));
        Checks.due("the next trace", 1, () -> x.trace(3, 100000));
        Checks.due("in place of the one before", 0, () -> x.traced(2, 4));
        Checks.due("all at once", 100000, () -> x.traced(3, 0));
        Checks.due("peak of it", 0, () -> x.peak(3));
        Checks.due("over 2 and 3", 2, () -> x.trace(1, 9));
        x.conduit(2, 3, 1, 50);
        Checks.due("a trace is of its time", 5, () -> x.traced(2, 3));
    }

    private static void longestTrace() {
        Cavernbook x = Checks.withStations(9);
        for (int i = 0; i < 9; i++) {
            x.setHeight(i, 8 - i);
        }
        for (int i = 0; i < 8; i++) {
            x.conduit(i, i + 1, 99, 100);
        }
        Checks.due("all goes down", 1, () -> x.trace(0, 100000));
        Checks.due("at last", 100000, () -> x.traced(8, 792));
        Checks.due("peak at last", 792, () -> x.peak(8));
        Checks.due("the least amount too", 1, () -> x.trace(0, 1));
        Checks.due("the least amount at last", 1, () -> x.traced(8, 792));
        Checks.due("no longer", 0, () -> x.traced(8, 793));
        Checks.due("nor at the end of time", 0, () -> x.traced(8, Integer.MAX_VALUE));
        for (int m = 794; m < 1194; m++) {
            int minute = m + 792;
            Checks.due("nothing comes again in " + minute, 0, () -> x.traced(8, minute));
        }
        Cavernbook y = Checks.withStations(2);
        y.setHeight(1, 1);
        y.conduit(1, 0, 7, 50);
        y.conduit(1, 0, 3, 50);
        y.trace(1, 10);
        Checks.due("of several the earliest", 3, () -> y.peak(0));
    }

    private static void traceExceptions() {
        Cavernbook x = Checks.withStations(2);
        x.trace(1, 5);
        Checks.index("station 2", () -> x.trace(2, 0));
        Checks.index("station -1", () -> x.trace(-1, 1));
        Checks.argument("amount 0", () -> x.trace(0, 0));
        Checks.argument("amount 100001", () -> x.trace(0, 100001));
        Checks.due("the trace stays", 5, () -> x.traced(1, 0));
        Checks.index("traced 2", () -> x.traced(2, -1));
        Checks.index("traced -1", () -> x.traced(-1, 0));
        Checks.argument("minute -1", () -> x.traced(0, -1));
        Checks.argument("minute far below", () -> x.traced(0, Integer.MIN_VALUE));
        Checks.index("peak 2", () -> x.peak(2));
        Checks.index("peak -1", () -> x.peak(-1));
        Checks.noElement("peak 0", () -> x.peak(0));
        Cavernbook y = Checks.withStations(1);
        Checks.noElement("no trace", () -> y.peak(0));
    }

    private static void rainAndWater() {
        Cavernbook x = new Cavernbook();
        Checks.due("0 at first", 0, () -> x.rain(0, 99));
        Checks.due("what was told", 99, () -> x.rain(0, 50));
        Checks.due("at the end of the hour", 50, () -> x.water(0));
        Checks.due("three quarters, down", 37, () -> x.water(1));
        Checks.due("once more", 27, () -> x.water(2));
        Checks.due("rain into the water", 0, () -> x.rain(2, 9));
        Checks.due("plus rain", 36, () -> x.water(2));
        Checks.due("the hour before as it was", 37, () -> x.water(1));
        Checks.due("the last hour of rain", 0, () -> x.rain(199, 99));
        Checks.due("water then", 99, () -> x.water(199));
        Checks.due("none later", 74, () -> x.water(200));
        Checks.due("at last", 0, () -> x.water(400));
        Checks.argument("hour -1", () -> x.rain(-1, 0));
        Checks.argument("hour 200", () -> x.rain(200, 0));
        Checks.argument("rain -1", () -> x.rain(0, -1));
        Checks.argument("rain 100", () -> x.rain(0, 100));
        Checks.argument("water -1", () -> x.water(-1));
        Checks.argument("water 401", () -> x.water(401));
        Checks.due("nothing changed", 50, () -> x.rain(0, 0));
        Checks.due("dry", 0, () -> x.water(1));
    }

    /** By 1 in each hour the water stays as it is, from 1 to 4: what an early hour tells is seen to the last one. */
    private static void waterThatStays() {
        Cavernbook x = new Cavernbook();
        for (int hour = 199; hour >= 0; hour--) {
            x.rain(hour, 1);
        }
        Checks.due("1 stays", 1, () -> x.water(199));
        for (int most : new int[] {2, 3, 4, 99}) {
            int stays = Math.min(most, 4);
            x.rain(0, most);
            Checks.due("stays by " + most, stays, () -> x.water(199));
            Checks.due("an hour behind the rain by " + most, stays * 3 / 4, () -> x.water(200));
        }
        x.rain(0, 1);
        Checks.due("1 again", 1, () -> x.water(199));
        x.rain(100, 0);
        Checks.due("an hour without rain", 0, () -> x.water(100));
        Checks.due("and 1 again", 1, () -> x.water(101));
    }

    private static void sumps() {
        Cavernbook x = Checks.withStations(2);
        Checks.index("no shot", () -> x.sump(0, -1));
        x.shot(0, 1, 0, 0, 0, 0, 1, 1);
        Checks.due("none at first", 0, () -> x.sump(0, 37));
        x.rain(0, 50);
        Checks.due("above", true, () -> x.isClosed(0, 0));
        Checks.due("at the level", true, () -> x.isClosed(0, 1));
        Checks.due("below", false, () -> x.isClosed(0, 2));
        Checks.due("another level", 37, () -> x.sump(0, 999));
        Checks.due("never", false, () -> x.isClosed(0, 0));
        Checks.due("none", 999, () -> x.sump(0, 0));
        Checks.due("no sump", false, () -> x.isClosed(0, 0));
        Checks.due("no sump in the dry", false, () -> x.isClosed(0, 400));
        Checks.index("shot 1", () -> x.sump(1, 0));
        Checks.index("shot -1", () -> x.sump(-1, 0));
        Checks.argument("level -1", () -> x.sump(0, -1));
        Checks.argument("level 1000", () -> x.sump(0, 1000));
        Checks.due("nothing changed", 0, () -> x.sump(0, 1));
        Checks.index("isClosed shot 1", () -> x.isClosed(1, -1));
        Checks.index("isClosed shot -1", () -> x.isClosed(-1, 0));
        Checks.argument("isClosed hour -1", () -> x.isClosed(0, -1));
        Checks.argument("isClosed hour 401", () -> x.isClosed(0, 401));
        Checks.due("isClosed hour 400", false, () -> x.isClosed(0, 400));
        x.setAside(0, 0);
        Checks.due("set aside is not closed", false, () -> x.isClosed(0, 400));
        Checks.due("but it is by water", true, () -> x.isClosed(0, 0));
    }
}
