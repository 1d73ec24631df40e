/** Promises 1 to 7: stations, shots, setting aside, joins, what is hung. */
public final class StationsTest {
    private StationsTest() {
    }

    public static void main(String[] args) {
        newObject();
        stations();
        shots();
        shotRanges();
        setAside();
        joins();
        joinsInAnyOrder();
        joinLimits();
        hung();
        Checks.finish();
    }

    private static void newObject() {
        Cavernbook x = new Cavernbook();
        Checks.due("new stations", 0, () -> x.stations());
        Checks.due("new shots", 0, () -> x.shots());
        Checks.due("new water", 0, () -> x.water(400));
        Checks.index("new oneWith", () -> x.oneWith(0, 0));
        Checks.index("new party", () -> x.party(0));
        Checks.index("new placeOf", () -> x.placeOf(0));
        Cavernbook other = Checks.withStations(1);
        Checks.due("objects are apart", 0, () -> x.stations());
        Checks.due("objects are apart, the other", 1, () -> other.stations());
    }

    private static void stations() {
        Cavernbook x = new Cavernbook();
        for (int i = 0; i < 9; i++) {
            int number = i;
            Checks.due("station " + i, number, () -> x.station());
        }
        Checks.state("a tenth station", () -> x.station());
        Checks.due("still nine", 9, () -> x.stations());
    }

    private static void shots() {
        Cavernbook x = Checks.withStations(2);
        for (int i = 0; i < 24; i++) {
            int number = i;
            Checks.due("shot " + i, number, () -> x.shot(0, 1, 0, 1, 1, 1, 1, 1));
        }
        Checks.state("a 25th shot", () -> x.shot(0, 1, 0, 1, 1, 1, 1, 1));
        Checks.index("no station ahead of 24 shots", () -> x.shot(0, 2, 0, 1, 1, 1, 1, 1));
        Checks.argument("range ahead of 24 shots", () -> x.shot(0, 1, 0, 1, 1, 1, 1, 5));
        Checks.due("still 24", 24, () -> x.shots());
        Checks.due("sum is that of 24", 72L, () -> x.allSteps());
    }

    private static void shotRanges() {
        Cavernbook x = Checks.withStations(3);
        Checks.index("from -1", () -> x.shot(-1, 1, 0, 1, 1, 1, 1, 1));
        Checks.index("from 3", () -> x.shot(3, 1, 0, 1, 1, 1, 1, 1));
        Checks.index("to -1", () -> x.shot(1, -1, 0, 1, 1, 1, 1, 1));
        Checks.index("to 3", () -> x.shot(1, 3, 0, 1, 1, 1, 1, 1));
        Checks.index("both are no stations, and the same", () -> x.shot(3, 3, -1, 1, 1, 1, 0, 1));
        Checks.argument("same", () -> x.shot(1, 1, 0, 1, 1, 1, 1, 1));
        int[][] wrong = {
            {-1, 1, 1, 1, 1, 1}, {1000, 1, 1, 1, 1, 1}, {0, -1000, 1, 1, 1, 1}, {0, 1000, 1, 1, 1, 1},
            {0, 1, -1000, 1, 1, 1}, {0, 1, 1000, 1, 1, 1}, {0, 1, 1, -1000, 1, 1}, {0, 1, 1, 1000, 1, 1},
            {0, 1, 1, 1, 0, 1}, {0, 1, 1, 1, 1000, 1}, {0, 1, 1, 1, 1, 0}, {0, 1, 1, 1, 1, 5},
            {Integer.MIN_VALUE, 1, 1, 1, 1, 1}, {0, Integer.MAX_VALUE, 1, 1, 1, 1},
            {0, 1, 1, 1, Integer.MAX_VALUE, 1}, {0, 1, 1, 1, 1, Integer.MIN_VALUE}};
        for (int i = 0; i < wrong.length; i++) {
            int[] w = wrong[i];
            Checks.argument("wrong shot " + i, () -> x.shot(0, 1, w[0], w[1], w[2], w[3], w[4], w[5]));
        }
        Checks.due("no shot told", 0, () -> x.shots());
        Checks.due("least numbers", 0, () -> x.shot(0, 1, 0, -999, -999, -999, 1, 1));
        Checks.due("greatest numbers", 1, () -> x.shot(2, 1, 999, 999, 999, 999, 999, 4));
        Checks.due("length on the day 0", 1, () -> x.length(0));
        Checks.due("length on the day 999", 1000, () -> x.length(999));
        Checks.due("a place at the edge", -999L, () -> x.top(1, 2, 0));
        Checks.due("a place behind it", -1998L, () -> x.top(2, 2, 999));
    }

    private static void setAside() {
        Cavernbook x = Checks.withStations(2);
        Checks.index("no shot", () -> x.setAside(0, 0));
        Checks.index("no shot ahead of no day", () -> x.setAside(0, 1000));
        x.shot(0, 1, 5, 1, 2, 3, 7, 1);
        Checks.index("shot -1", () -> x.setAside(-1, 0));
        Checks.index("shot 1", () -> x.setAside(1, 0));
        Checks.argument("day -1", () -> x.setAside(0, -1));
        Checks.argument("day 1000", () -> x.setAside(0, 1000));
        Checks.due("not set aside by that", 7, () -> x.length(999));
        Checks.due("first", false, () -> x.setAside(0, 8));
        Checks.due("counts ahead", 7, () -> x.length(7));
        Checks.due("counts no more", 0, () -> x.length(8));
        Checks.due("again, later", true, () -> x.setAside(0, 999));
        Checks.due("counts again", 7, () -> x.length(998));
        Checks.due("but not on the last day", 0, () -> x.length(999));
        Checks.due("ahead of its day", true, () -> x.setAside(0, 0));
        Checks.due("never counts", 0, () -> x.length(5));
        Checks.argument("a wrong day changes nothing", () -> x.setAside(0, -5));
        Checks.due("set aside in place of another day", true, () -> x.setAside(0, 6));
        Checks.due("counts on its day", 7, () -> x.length(5));
    }

    private static void joins() {
        Cavernbook x = Checks.withStations(5);
        Checks.due("alone", 4, () -> x.oneWith(4, 999));
        Checks.due("first join", true, () -> x.join(4, 2, 10));
        Checks.due("ahead of it", 4, () -> x.oneWith(4, 9));
        Checks.due("on its day", 2, () -> x.oneWith(4, 10));
        Checks.due("the lower one itself", 2, () -> x.oneWith(2, 999));
        Checks.due("again", false, () -> x.join(2, 4, 10));
        Checks.due("again on a later day", false, () -> x.join(2, 4, 11));
        Checks.due("again on an earlier day", true, () -> x.join(2, 4, 3));
        Checks.due("earlier now", 2, () -> x.oneWith(4, 3));
        Checks.due("not still earlier", 4, () -> x.oneWith(4, 2));
    }

    private static void joinsInAnyOrder() {
        Cavernbook x = Checks.withStations(5);
        Checks.due("3 and 4", true, () -> x.join(3, 4, 100));
        Checks.due("1 and 3, earlier", true, () -> x.join(3, 1, 50));
        Checks.due("on 50, 4 is alone", 4, () -> x.oneWith(4, 50));
        Checks.due("on 50, 3 is with 1", 1, () -> x.oneWith(3, 50));
        Checks.due("on 100, all three are one", 1, () -> x.oneWith(4, 100));
        Checks.due("so they are one already", false, () -> x.join(1, 4, 100));
        Checks.due("the entrance with all of them", true, () -> x.join(4, 0, 200));
        Checks.due("by the entrance", 0, () -> x.oneWith(1, 200));
        Checks.due("but not 2", 2, () -> x.oneWith(2, 999));
    }

    private static void joinLimits() {
        Cavernbook x = Checks.withStations(2);
        Checks.index("station -1", () -> x.join(-1, 0, 0));
        Checks.index("station 2", () -> x.join(2, 0, 0));
        Checks.index("other 2", () -> x.join(0, 2, -1));
        Checks.index("other -1", () -> x.join(0, -1, 0));
        Checks.argument("same", () -> x.join(1, 1, 0));
        Checks.argument("day -1", () -> x.join(0, 1, -1));
        Checks.argument("day 1000", () -> x.join(0, 1, 1000));
        Checks.index("oneWith station 2", () -> x.oneWith(2, 1000));
        Checks.index("oneWith station -1", () -> x.oneWith(-1, 0));
        Checks.argument("oneWith day -1", () -> x.oneWith(1, -1));
        Checks.argument("oneWith day 1000", () -> x.oneWith(1, 1000));
        for (int i = 0; i < 8; i++) {
            boolean first = i == 0;
            Checks.due("join " + i, first, () -> x.join(0, 1, 500));
        }
        Checks.state("a ninth join", () -> x.join(0, 1, 0));
        Checks.argument("wrong day ahead of the ninth", () -> x.join(0, 1, 1000));
        Checks.argument("same ahead of the ninth", () -> x.join(0, 0, 0));
        Checks.index("no station ahead of the ninth", () -> x.join(0, 2, 0));
        Checks.due("the ninth changed nothing", 1, () -> x.oneWith(1, 0));
    }

    private static void hung() {
        Cavernbook x = Checks.withStations(4);
        Checks.due("the entrance", true, () -> x.isHung(0, 0));
        Checks.due("no other", false, () -> x.isHung(1, 999));
        x.shot(2, 1, 3, 1, 1, 1, 1, 1);
        Checks.due("not from the entrance", false, () -> x.isHung(1, 3));
        x.shot(1, 0, 5, 1, 1, 1, 1, 1);
        Checks.due("either way, over others", true, () -> x.isHung(2, 5));
        Checks.due("not yet", false, () -> x.isHung(2, 4));
        Checks.due("not 3", false, () -> x.isHung(3, 5));
        x.join(3, 2, 7);
        Checks.due("3 with 2", true, () -> x.isHung(3, 7));
        Checks.due("3 ahead of that", false, () -> x.isHung(3, 6));
        x.setAside(1, 9);
        Checks.due("set aside", false, () -> x.isHung(2, 9));
        x.join(0, 3, 10);
        Checks.due("over the entrance", true, () -> x.isHung(1, 10));
        Checks.index("station 4", () -> x.isHung(4, -1));
        Checks.index("station -1", () -> x.isHung(-1, 0));
        Checks.argument("day -1", () -> x.isHung(0, -1));
        Checks.argument("day 1000", () -> x.isHung(0, 1000));
    }
}
