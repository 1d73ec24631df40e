/** Promises 8 to 15: places, loops, faults, the blunder, length and depth. */
public final class PlacesTest {
    private PlacesTest() {
    }

    public static void main(String[] args) {
        places();
        placeExceptions();
        loops();
        faults();
        faultExceptions();
        blunder();
        blunderKeepsAllHung();
        blunderIsNoWayIn();
        lengthAndDepth();
        dayRanges();
        greatNumbers();
        Checks.finish();
    }

    /** 0 to 1 by 10 with the weight 1 and by 13 with the weight 2: at 12; and by halves and signs. */
    private static void places() {
        Cavernbook x = Checks.withStations(3);
        x.shot(0, 1, 0, 10, 0, -5, 1, 1);
        x.shot(0, 1, 1, 13, 0, -6, 1, 2);
        x.shot(1, 2, 1, 0, 7, 1, 1, 1);
        Checks.due("one shot", 10L, () -> x.top(1, 0, 0));
        Checks.due("weighed", 12L, () -> x.top(1, 0, 1));
        Checks.due("weighed, bottom", 1L, () -> x.bottom(1, 0, 1));
        Checks.due("below 0", -17L, () -> x.top(1, 2, 1));
        Checks.due("below 0, bottom", 3L, () -> x.bottom(1, 2, 1));
        Checks.due("over 1", -14L, () -> x.top(2, 2, 1));
        Checks.due("over 1, bottom", 3L, () -> x.bottom(2, 2, 1));
        Checks.due("0 by 1", 0L, () -> x.top(1, 1, 1));
        Checks.due("0 by 1, bottom", 1L, () -> x.bottom(1, 1, 1));
        Checks.due("the entrance", 0L, () -> x.top(0, 0, 1));
        Checks.due("the entrance, bottom", 1L, () -> x.bottom(0, 2, 1));
        x.join(1, 2, 2);
        Checks.due("2 is at 1", -17L, () -> x.top(2, 2, 2));
        x.join(2, 0, 3);
        Checks.due("all at the entrance", 0L, () -> x.top(2, 2, 3));
        Checks.due("all at the entrance, bottom", 1L, () -> x.bottom(1, 0, 3));
    }

    private static void placeExceptions() {
        Cavernbook x = Checks.withStations(2);
        Checks.index("top station 2", () -> x.top(2, 0, -1));
        Checks.index("top station -1", () -> x.top(-1, 0, 0));
        Checks.index("top axis 3", () -> x.top(0, 3, -1));
        Checks.index("top axis -1", () -> x.top(0, -1, 0));
        Checks.argument("top day -1", () -> x.top(1, 0, -1));
        Checks.argument("top day 1000", () -> x.top(1, 0, 1000));
        Checks.noElement("top not hung", () -> x.top(1, 0, 0));
        Checks.index("bottom station 2", () -> x.bottom(2, 0, -1));
        Checks.index("bottom station -1", () -> x.bottom(-1, 0, 0));
        Checks.index("bottom axis 3", () -> x.bottom(0, 3, -1));
        Checks.index("bottom axis -1", () -> x.bottom(0, -1, 0));
        Checks.argument("bottom day -1", () -> x.bottom(1, 0, -1));
        Checks.argument("bottom day 1000", () -> x.bottom(1, 0, 1000));
        Checks.noElement("bottom not hung", () -> x.bottom(1, 0, 999));
    }

    private static void loops() {
        Cavernbook x = Checks.withStations(5);
        Checks.due("none", 0, () -> x.loops(0));
        x.shot(0, 1, 0, 1, 1, 1, 1, 1);
        x.shot(1, 2, 0, 1, 1, 1, 1, 1);
        x.shot(2, 0, 0, 1, 1, 1, 1, 1);
        x.shot(0, 2, 0, 1, 1, 1, 1, 1);
        Checks.due("two", 2, () -> x.loops(0));
        x.shot(3, 4, 0, 1, 1, 1, 1, 1);
        x.shot(4, 3, 0, 1, 1, 1, 1, 1);
        Checks.due("not of what is not hung", 2, () -> x.loops(0));
        x.join(4, 2, 5);
        Checks.due("hung by a join", 3, () -> x.loops(5));
        x.join(1, 2, 6);
        Checks.due("a shot of no use is not one more", 3, () -> x.loops(6));
        x.join(3, 4, 7);
        Checks.due("shots of no use", 2, () -> x.loops(7));
    }

    private static void faults() {
        Cavernbook x = Checks.withStations(3);
        x.shot(0, 1, 0, 10, 0, 0, 1, 1);
        Checks.due("alone", 0L, () -> x.fault(0, 0));
        Checks.due("alone, all", 0L, () -> x.allFaults(0));
        x.shot(1, 0, 1, -13, 1, 0, 1, 2);
        Checks.due("two thirds of 3 and 1", 4444L, () -> x.fault(0, 1));
        Checks.due("one third of 3 and 1", 1111L, () -> x.fault(1, 1));
        Checks.due("all, not of the rounded ones", 6666L, () -> x.allFaults(1));
        x.shot(1, 2, 1, 5, 5, 5, 1, 1);
        Checks.due("not in a loop", 0L, () -> x.fault(2, 1));
        Checks.due("all as before", 6666L, () -> x.allFaults(1));
        x.join(1, 2, 2);
        Checks.noElement("of no use", () -> x.fault(2, 2));
        Checks.due("nor in all", 6666L, () -> x.allFaults(2));
        x.setAside(1, 3);
        Checks.noElement("set aside", () -> x.fault(1, 3));
        Checks.due("nothing left", 0L, () -> x.allFaults(3));
    }

    private static void faultExceptions() {
        Cavernbook x = Checks.withStations(4);
        Checks.index("no shot", () -> x.fault(0, -1));
        x.shot(1, 2, 5, 1, 1, 1, 1, 1);
        Checks.index("shot -1", () -> x.fault(-1, 5));
        Checks.index("shot 1", () -> x.fault(1, 5));
        Checks.argument("day -1", () -> x.fault(0, -1));
        Checks.argument("day 1000", () -> x.fault(0, 1000));
        Checks.noElement("not hung", () -> x.fault(0, 5));
        x.shot(0, 1, 0, 1, 1, 1, 1, 1);
        Checks.due("hung", 0L, () -> x.fault(0, 5));
        Checks.noElement("not yet", () -> x.fault(0, 4));
    }

    private static void blunder() {
        Cavernbook x = Checks.withStations(2);
        Checks.noElement("nothing told", () -> x.blunder(0));
        x.shot(0, 1, 0, 10, 0, 0, 1, 1);
        Checks.noElement("one", () -> x.blunder(0));
        x.shot(0, 1, 1, 10, 0, 0, 1, 1);
        Checks.noElement("not less", () -> x.blunder(1));
        x.shot(0, 1, 2, 20, 0, 0, 1, 1);
        Checks.due("the third", 2, () -> x.blunder(2));
        x.shot(0, 1, 3, 20, 0, 0, 1, 1);
        Checks.due("of several the lowest", 0, () -> x.blunder(3));
        x.setAside(0, 4);
        Checks.due("without it", 1, () -> x.blunder(4));
        x.shot(1, 0, 5, -20, 900, 0, 1, 1);
        Checks.due("over all axes", 4, () -> x.blunder(5));
        x.setAside(4, 6);
        Checks.due("as before", 1, () -> x.blunder(6));
        Checks.argument("day -1", () -> x.blunder(-1));
        Checks.argument("day 1000", () -> x.blunder(1000));
    }

    /** The shot 2 alone holds the station 2; the shot 3 leads between stations that are not hung. */
    private static void blunderKeepsAllHung() {
        Cavernbook x = Checks.withStations(5);
        x.shot(0, 1, 0, 10, 0, 0, 1, 4);
        x.shot(1, 0, 0, 10, 0, 0, 1, 1);
        x.shot(1, 2, 0, 999, 999, 999, 1, 1);
        x.shot(3, 4, 0, 999, 999, 999, 1, 1);
        Checks.due("the greatest of a loop, the lowest of both", 0, () -> x.blunder(0));
        x.shot(0, 2, 1, 0, 0, 0, 1, 1);
        Checks.due("in a loop now", 2, () -> x.blunder(1));
        x.join(1, 2, 2);
        Checks.due("a shot of no use is none", 0, () -> x.blunder(2));
    }

    /** Without the shot 0, which leads to it, the one bad loop would not be hung, so that no fault were left. */
    private static void blunderIsNoWayIn() {
        Cavernbook x = Checks.withStations(3);
        x.shot(0, 1, 0, 10, 0, 0, 1, 1);
        x.shot(1, 2, 0, 10, 0, 0, 1, 1);
        x.shot(2, 1, 0, 10, 0, 0, 1, 1);
        Checks.due("of the loop, not the way to it", 1, () -> x.blunder(0));
        x.shot(1, 0, 1, -20, 0, 0, 1, 1);
        Checks.due("the worse loop is the one behind", 1, () -> x.blunder(1));
        x.setAside(2, 2);
        Checks.due("the way in is a loop by itself", 0, () -> x.blunder(2));
    }

    private static void lengthAndDepth() {
        Cavernbook x = Checks.withStations(4);
        Checks.due("no length", 0, () -> x.length(0));
        Checks.due("no depth", 0L, () -> x.depth(0));
        x.shot(0, 1, 0, 0, 0, -10, 100, 1);
        x.shot(0, 1, 1, 0, 0, -11, 50, 2);
        x.shot(1, 2, 1, 0, 0, 40, 7, 1);
        x.shot(3, 2, 2, 0, 0, 500, 1, 1);
        Checks.due("length 0", 100, () -> x.length(0));
        Checks.due("depth 0", 1000L, () -> x.depth(0));
        Checks.due("length 1", 157, () -> x.length(1));
        Checks.due("depth over the entrance", 4000L, () -> x.depth(1));
        Checks.due("depth by 3", 50000L, () -> x.depth(2));
        x.setAside(2, 2);
        Checks.due("depth in hundredths, down", 1066L, () -> x.depth(2));
        Checks.due("length 2", 150, () -> x.length(2));
        x.join(0, 1, 3);
        Checks.due("of no use", 0, () -> x.length(3));
        Checks.due("no depth any more", 0L, () -> x.depth(3));
    }

    private static void dayRanges() {
        Cavernbook x = new Cavernbook();
        for (int day : new int[] {-1, 1000, Integer.MIN_VALUE, Integer.MAX_VALUE}) {
            Checks.argument("loops " + day, () -> x.loops(day));
            Checks.argument("allFaults " + day, () -> x.allFaults(day));
            Checks.argument("blunder " + day, () -> x.blunder(day));
            Checks.argument("length " + day, () -> x.length(day));
            Checks.argument("depth " + day, () -> x.depth(day));
        }
        for (int day : new int[] {0, 999}) {
            Checks.due("loops " + day, 0, () -> x.loops(day));
            Checks.due("allFaults " + day, 0L, () -> x.allFaults(day));
            Checks.noElement("blunder " + day, () -> x.blunder(day));
            Checks.due("length " + day, 0, () -> x.length(day));
            Checks.due("depth " + day, 0L, () -> x.depth(day));
        }
    }

    /** Two by two ends of a step that could not be wider, 12 each way: nothing may pass a long. */
    private static void greatNumbers() {
        Cavernbook x = Checks.withStations(2);
        for (int i = 0; i < 24; i++) {
            int step = i % 2 == 0 ? 999 : -999;
            x.shot(0, 1, 0, step, step, step, 999, 4);
        }
        Checks.due("place", 0L, () -> x.top(1, 0, 0));
        Checks.due("fault", 2994003000L, () -> x.fault(23, 0));
        Checks.due("all", 96L * 2994003000L, () -> x.allFaults(0));
        Checks.due("length", 23976, () -> x.length(0));
        Checks.due("loops", 23, () -> x.loops(0));
        Checks.due("blunder", 0, () -> x.blunder(0));
        Checks.due("sound", true, () -> x.isSound(0));
    }
}
