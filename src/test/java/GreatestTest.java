/** The least and the greatest answers that the document's numbers allow, and numbers that an int could not hold. */
public final class GreatestTest {
    private static final long BOTTOM = 4638983497L;
    private static final long[] EASTS = {0, 728914524831L, 1901667199230L, 3356399662578L, 4085890518501L,
        5358945505185L, 6930531989541L, 7530092246124L, 8678291437584L};
    private static final long[] NORTHS = {0, -1158396427017L, -3577623529266L, 1329845317506L, -3850945806393L,
        784668369177L, -3650975081289L, 739587977694L, -3415943087550L};
    private static final long[] UPS = {0, -6527009802935L, -6325473793756L, -1224177526296L, -5867775050443L,
        -5420915025719L, -1713162292417L, -4573837065064L, -4771719493966L};
    private static final long[] FAULTS = {2434479748L, 1694084628L, 484208462L, 722418695L, 1325447921L, 473728847L,
        905421270L, 1631466887L, 830977846L, 531785014L, 428099343L, 1934179951L, 1577371835L, 1240817767L,
        1921023707L, 1604369758L, 1731967845L, 4522469287L, 1123694619L, 921616220L, 651530153L, 856317801L,
        522983004L, 750156183L};

    private GreatestTest() {
    }

    public static void main(String[] args) {
        farthestPlaces();
        farthestBothWays();
        manyTrees();
        strongAgainstWeak();
        sumsBeyondLong();
        greatestSum();
        steps();
        lengths();
        wettest();
        greatestTraces();
        longestPlans();
        shares();
        Checks.finish();
    }

    private static Cavernbook chain(int step) {
        Cavernbook x = Checks.withStations(9);
        for (int i = 0; i < 8; i++) {
            x.shot(i, i + 1, 999, step, -step, step, 999, 4);
        }
        return x;
    }

    private static void farthestPlaces() {
        for (int step : new int[] {999, -999}) {
            Cavernbook x = chain(step);
            Checks.due("the last station, east " + step, 8L * step, () -> x.top(8, 0, 999));
            Checks.due("the last station, north " + step, -8L * step, () -> x.top(8, 1, 999));
            Checks.due("the last station, up " + step, 8L * step, () -> x.top(8, 2, 999));
            Checks.due("by 1 " + step, 1L, () -> x.bottom(8, 2, 999));
            Checks.due("depth " + step, 799200L, () -> x.depth(999));
            Checks.due("depth a day ahead " + step, 0L, () -> x.depth(998));
            Checks.due("sound " + step, true, () -> x.isSound(999));
        }
    }

    /** The entrance in the middle: four links up and four down. */
    private static void farthestBothWays() {
        Cavernbook x = Checks.withStations(9);
        for (int i = 0; i < 8; i++) {
            x.shot(i < 2 ? 0 : i - 1, i + 1, 0, 0, 0, i % 2 == 0 ? 999 : -999, 1, 1);
        }
        Checks.due("up", 3996L, () -> x.top(7, 2, 0));
        Checks.due("down", -3996L, () -> x.top(8, 2, 0));
        Checks.due("depth", 799200L, () -> x.depth(0));
    }

    /** 24 shots between 9 stations, with weights that leave no common divisor. */
    private static Cavernbook tangled() {
        int[] weights = {3, 4, 4, 3, 4, 4, 3, 4, 4, 4, 3, 3, 3, 4, 4, 4, 4, 4, 4, 4, 4, 4, 3, 3};
        Cavernbook x = Checks.withStations(9);
        for (int i = 0; i < 24; i++) {
            int over = i % 9 + 1 + i / 9;
            x.shot(i % 9, over % 9, i, over < 9 ? 999 : -999, i % 2 == 0 ? 999 : -999,
                i % 3 == 0 ? -999 : 999 - 2 * i, 1 + i, weights[i]);
        }
        return x;
    }

    private static void manyTrees() {
        Cavernbook x = tangled();
        for (int i = 0; i < 9; i++) {
            int s = i;
            Checks.due("east of " + s, EASTS[s], () -> x.top(s, 0, 23));
            Checks.due("north of " + s, NORTHS[s], () -> x.top(s, 1, 23));
            Checks.due("up of " + s, UPS[s], () -> x.top(s, 2, 23));
            for (int axis = 0; axis < 3; axis++) {
                int a = axis;
                Checks.due("bottom of " + s + " " + a, s == 0 ? 1L : BOTTOM, () -> x.bottom(s, a, 23));
            }
        }
        for (int i = 0; i < 24; i++) {
            int k = i;
            Checks.due("fault of " + k, FAULTS[k], () -> x.fault(k, 23));
        }
        Checks.due("all", 114007357181L, () -> x.allFaults(23));
        Checks.due("blunder", 17, () -> x.blunder(23));
        Checks.due("depth", 140699L, () -> x.depth(23));
        Checks.due("loops", 16, () -> x.loops(23));
        Checks.due("sound", true, () -> x.isSound(23));
    }

    /** Eight links of two or three strong shots, and one weak shot back that says the contrary. */
    private static void strongAgainstWeak() {
        Cavernbook x = Checks.withStations(9);
        for (int i = 0; i < 23; i++) {
            x.shot(i % 8, i % 8 + 1, 0, 999, -999, 999, 1, 4);
        }
        Checks.due("no fault", 0L, () -> x.allFaults(0));
        x.shot(0, 8, 0, -999, 999, -999, 1, 1);
        Checks.due("the last one, up", 174825L, () -> x.top(8, 2, 0));
        Checks.due("the last one, north", -174825L, () -> x.top(8, 1, 0));
        Checks.due("bottom", 41L, () -> x.bottom(8, 0, 0));
        Checks.due("the greatest fault", 83098277196L, () -> x.fault(23, 0));
        Checks.due("of a link of three", 577071369L, () -> x.fault(0, 0));
        Checks.due("of a link of two", 1298410581L, () -> x.fault(7, 0));
        Checks.due("all", 141959556878L, () -> x.allFaults(0));
        Checks.due("blunder", 23, () -> x.blunder(0));
        Checks.due("depth", 426402L, () -> x.depth(0));
    }

    /**
     * Sums whose fractions can be told apart only by products beyond 64 bits, and whose tops alone tell otherwise:
     * without another shot than the blunder the top is the least, as the bottom is less by still more.
     */
    private static void sumsBeyondLong() {
        long[][] rows = {{1629, 1415, 1931, 1724, 3, 39658548629L}, {60, 1722, 954, 1590, 2, 20033841003L},
            {1932, 511, 1330, 107, 0, 15431346109L}, {27, 1498, 444, 836, 12, 40176036958L}};
        for (long[] row : rows) {
            Cavernbook x = Checks.withStations(9);
            for (int i = 0; i < 24; i++) {
                int[] steps = new int[3];
                for (int axis = 0; axis < 3; axis++) {
                    long far = row[0] * i * i + row[1] * i + row[2] * axis * axis + row[3] * axis * i;
                    steps[axis] = (int) (far % 1999) - 999;
                }
                x.shot(i % 9, (i % 9 + 1 + i / 9) % 9, 0, steps[0], steps[1], steps[2], 1,
                    1 + (int) ((i * i + row[0]) % 4));
            }
            Checks.due("blunder of " + row[0], (int) row[4], () -> x.blunder(0));
            Checks.due("all of " + row[0], row[5], () -> x.allFaults(0));
        }
    }

    private static void greatestSum() {
        Cavernbook x = Checks.withStations(2);
        for (int i = 0; i < 24; i++) {
            int step = i % 2 == 0 ? 999 : -999;
            x.shot(i % 2, 1 - i % 2, 0, 999, step, -999, 999, 4);
        }
        Checks.due("half of them against the others", 0L, () -> x.top(1, 0, 0));
        Checks.due("but not where they lead the same way", 999L, () -> x.top(1, 1, 0));
        Checks.due("each fault", 1996002000L, () -> x.fault(0, 0));
        Checks.due("all", 96L * 1996002000L, () -> x.allFaults(0));
        Checks.due("the lowest", 0, () -> x.blunder(0));
        Checks.due("as many loops as can be", 23, () -> x.loops(0));
    }

    private static void steps() {
        for (int step : new int[] {999, -999}) {
            Cavernbook x = Checks.withStations(2);
            for (int i = 0; i < 24; i++) {
                x.shot(0, 1, 0, step, step, step, 1, 1);
            }
            Checks.due("all steps of " + step, 72L * step, () -> x.allSteps());
            Checks.due("no blunder of " + step, Refusals.NO_ELEMENT, () -> x.blunder(0));
            Checks.due("no fault of " + step, 0L, () -> x.allFaults(0));
        }
    }

    private static void lengths() {
        Cavernbook x = Checks.withStations(9);
        for (int i = 0; i < 24; i++) {
            x.shot(i % 9, (i + 1) % 9, 999, 0, 0, 0, 999, 1);
        }
        Checks.due("the greatest length", 23976, () -> x.length(999));
        Checks.due("none a day ahead", 0, () -> x.length(998));
        Cavernbook y = Checks.withStations(2);
        y.shot(0, 1, 0, 999, 999, 999, 1, 1);
        Checks.due("the least, which is not reckoned from steps", 1, () -> y.length(0));
    }

    /** 99 in each hour: the water comes up to 393 and stays there. */
    private static void wettest() {
        Cavernbook x = Checks.withStations(2);
        for (int i = 0; i < 3; i++) {
            x.shot(0, 1, 0, 0, 0, 0, 1, 1);
        }
        x.sump(0, 393);
        x.sump(1, 394);
        x.sump(2, 999);
        for (int h = 199; h >= 0; h--) {
            x.rain(h, 99);
        }
        int[][] want = {{0, 99}, {1, 173}, {2, 228}, {40, 393}, {198, 393}, {199, 393}, {200, 294}, {201, 220}, {400, 0}};
        for (int[] w : want) {
            Checks.due("water " + w[0], w[1], () -> x.water(w[0]));
        }
        Checks.due("at the level", true, () -> x.isClosed(0, 199));
        Checks.due("below it", false, () -> x.isClosed(1, 199));
        Checks.due("below the greatest", false, () -> x.isClosed(2, 199));
        Checks.due("an hour behind the rain", false, () -> x.isClosed(0, 200));
        Checks.due("mean", 99.0, () -> x.meanRain());
    }

    private static void greatestTraces() {
        Cavernbook x = Books.heights(999, 998, 997, 996, 995, 994, 993, 992, 991);
        for (int i = 0; i < 8; i++) {
            x.conduit(i, i + 1, 99, 99);
        }
        Checks.due("a hundredth stays at each", 9, () -> x.trace(0, 100000));
        Checks.due("at the first", 1000, () -> x.traced(0, 0));
        Checks.due("at the second", 990, () -> x.traced(1, 99));
        Checks.due("at the last but one", 933, () -> x.traced(7, 693));
        Checks.due("at the last", 92271, () -> x.traced(8, 792));
        Checks.due("nowhere later", 0, () -> x.traced(8, 793));
        Checks.due("the latest peak", 792, () -> x.peak(8));
        Checks.due("of the least amount all stays", 1, () -> x.trace(0, 1));
        Checks.due("in the minute 0", 1, () -> x.traced(0, 0));
        Checks.due("and does not come down", 0, () -> x.traced(8, 792));
    }

    /** In the hour 199, the last one of a party, with shots that are open in the last hours of a plan only. */
    private static void longestPlans() {
        Cavernbook x = Checks.withStations(9);
        for (int i = 0; i < 8; i++) {
            x.shot(i + 1, i, 0, 0, 0, 0, 1, 1);
        }
        x.party(8);
        x.party(0);
        for (int p = 0; p < 2; p++) {
            for (int hours : new int[] {48, 48, 48, 48, 7}) {
                x.pause(p == 0 ? 0 : 1, hours);
            }
        }
        for (int i = 0; i < 8; i++) {
            x.tell(0, i);
        }
        Checks.due("eight hours", 207, () -> x.plan(0));
        Checks.due("the first shot", 7, () -> x.planAt(0, 0));
        Checks.due("the last shot", 0, () -> x.planAt(0, 7));
        Checks.argument("no more", () -> x.planAt(0, 8));
        Checks.due("the last chance", 241, () -> x.lastChance(0));
        Checks.due("at the entrance", 199, () -> x.plan(1));
        Checks.due("the latest answer", 249, () -> x.lastChance(1));
        x.sump(7, 1);
        x.rain(199, 99);
        Checks.due("when the water is gone in the hour 213", 221, () -> x.plan(0));
        Checks.due("it waits", -1, () -> x.planAt(0, 13));
        Checks.due("it goes", 7, () -> x.planAt(0, 14));
        Checks.due("the last chance is as late", 241, () -> x.lastChance(0));
    }

    private static void shares() {
        Cavernbook x = new Cavernbook();
        for (int i = 1; i <= 9; i++) {
            int all = i;
            x.station();
            Checks.due("one of " + i, 1.0f / all, () -> x.hungShare(0));
        }
        for (int i = 1; i < 9; i++) {
            int hung = i + 1;
            x.shot(0, i, 0, 0, 0, 0, 1, 1);
            Checks.due(hung + " of 9", hung / 9.0f, () -> x.hungShare(0));
        }
    }
}
