/**
 * Calls to which several exceptions of theirs apply: the one that is listed first is thrown, for every two and more
 * of a call's that can apply at once. What is refused changes nothing.
 */
public final class OrderTest {
    private OrderTest() {
    }

    public static void main(String[] args) {
        shot();
        setAside();
        join();
        days();
        places();
        figures();
        heights();
        conduit();
        water();
        parties();
        go();
        plans();
        sums();
        Checks.finish();
    }

    private static void index(String name, Refusals.Maker maker, Refusals.Asked call) {
        Refusals.refused(name, Refusals.INDEX, maker, call);
    }

    private static void argument(String name, Refusals.Maker maker, Refusals.Asked call) {
        Refusals.refused(name, Refusals.ARGUMENT, maker, call);
    }

    private static void unsupported(String name, Refusals.Maker maker, Refusals.Asked call) {
        Refusals.refused(name, Refusals.UNSUPPORTED, maker, call);
    }

    private static void shot() {
        index("no from, both the same", Books::roomy, x -> x.shot(8, 8, 0, 1, 1, 1, 1, 1));
        index("no from, range", Books::roomy, x -> x.shot(-1, 1, 1000, 1, 1, 1, 1, 1));
        index("no to, range", Books::roomy, x -> x.shot(1, 8, 0, 1000, 1, 1, 1, 1));
        int[][] wrong = {{1000, 1, 1, 1, 1, 1}, {0, -1000, 1, 1, 1, 1}, {0, 1, 1000, 1, 1, 1}, {0, 1, 1, 1000, 1, 1},
            {0, 1, 1, 1, 0, 1}, {0, 1, 1, 1, 1, 5}};
        for (int i = 0; i < wrong.length; i++) {
            int[] w = wrong[i];
            index("no from, number " + i, Books::roomy, x -> x.shot(8, 1, w[0], w[1], w[2], w[3], w[4], w[5]));
            index("no to, number " + i, Books::roomy, x -> x.shot(1, 8, w[0], w[1], w[2], w[3], w[4], w[5]));
            argument("number " + i + ", 24 shots", Books::full, x -> x.shot(0, 1, w[0], w[1], w[2], w[3], w[4], w[5]));
        }
        index("no from, 24 shots", Books::full, x -> x.shot(9, 1, 0, 1, 1, 1, 1, 1));
        index("no to, 24 shots", Books::full, x -> x.shot(1, -1, 0, 1, 1, 1, 1, 1));
        index("no station, range, 24 shots", Books::full, x -> x.shot(9, 9, -1, 1, 1, -1000, 0, 0));
        argument("the same, 24 shots", Books::full, x -> x.shot(1, 1, 0, 1, 1, 1, 1, 1));
        argument("day, 24 shots", Books::full, x -> x.shot(0, 1, 1000, 1, 1, 1, 1, 1));
        argument("east, 24 shots", Books::full, x -> x.shot(0, 1, 0, -1000, 1, 1, 1, 1));
        argument("north, 24 shots", Books::full, x -> x.shot(0, 1, 0, 1, 1000, 1, 1, 1));
        argument("up, 24 shots", Books::full, x -> x.shot(0, 1, 0, 1, 1, -1000, 1, 1));
        argument("length, 24 shots", Books::full, x -> x.shot(0, 1, 0, 1, 1, 1, 1000, 1));
        argument("weight, 24 shots", Books::full, x -> x.shot(0, 1, 0, 1, 1, 1, 1, 0));
    }

    private static void setAside() {
        index("setAside no shot, day below", Books::roomy, x -> x.setAside(23, -1));
        index("setAside no shot, day above", Books::full, x -> x.setAside(-1, 1000));
    }

    private static void join() {
        index("join no station, the same", Books::roomy, x -> x.join(8, 8, 0));
        index("join no station, day", Books::roomy, x -> x.join(-1, 0, -1));
        index("join no other, day", Books::roomy, x -> x.join(0, 8, 1000));
        index("join no station, told 8 times", Books::full, x -> x.join(9, 0, 0));
        index("join no other, told 8 times", Books::full, x -> x.join(0, -1, 0));
        index("join no station, the same, day, told 8 times", Books::full, x -> x.join(-1, -1, -1));
        argument("join the same, told 8 times", Books::full, x -> x.join(8, 8, 0));
        argument("join day below, told 8 times", Books::full, x -> x.join(0, 8, -1));
        argument("join day above, told 8 times", Books::full, x -> x.join(7, 8, 1000));
    }

    private static void days() {
        index("oneWith no station, day", Books::roomy, x -> x.oneWith(8, 1000));
        index("oneWith below, day below", Books::roomy, x -> x.oneWith(-1, -1));
        index("isHung no station, day", Books::roomy, x -> x.isHung(8, -1));
        index("isHung below, day above", Books::roomy, x -> x.isHung(-1, 1000));
    }

    /** The station 7 is not hung ahead of the day 240, nor is it on a day that is none. */
    private static void places() {
        index("top no station, day", Books::roomy, x -> x.top(8, 0, 1000));
        index("top no axis, day", Books::roomy, x -> x.top(0, 3, -1));
        index("top no axis, not hung", Books::roomy, x -> x.top(7, -1, 0));
        index("top no axis, day, not hung", Books::roomy, x -> x.top(7, 3, -1));
        index("top no station, no axis, day", Books::roomy, x -> x.top(-1, -1, -1));
        argument("top day, not hung", Books::roomy, x -> x.top(7, 2, -1));
        index("bottom no station, day", Books::roomy, x -> x.bottom(8, 0, 1000));
        index("bottom no axis, day", Books::roomy, x -> x.bottom(0, -1, 1000));
        index("bottom no axis, not hung", Books::roomy, x -> x.bottom(7, 3, 0));
        index("bottom no axis, day, not hung", Books::roomy, x -> x.bottom(7, -1, 1000));
        index("bottom no station, no axis, day", Books::roomy, x -> x.bottom(8, 3, -1));
        argument("bottom day, not hung", Books::roomy, x -> x.bottom(7, 0, -1));
        argument("bottom day above, never hung", () -> Checks.withStations(2), x -> x.bottom(1, 0, 1000));
    }

    private static void figures() {
        index("fault no shot, day", Books::roomy, x -> x.fault(23, -1));
        index("fault below, day above", Books::roomy, x -> x.fault(-1, 1000));
        argument("fault day, not yet", Books::roomy, x -> x.fault(22, -1));
        argument("fault day, set aside", Books::roomy, x -> x.fault(5, 1000));
        argument("fault day, of no use", Books::roomy, x -> x.fault(6, 1000));
        argument("blunder day, none", Cavernbook::new, x -> x.blunder(-1));
        argument("blunder day above, none", () -> Checks.withStations(9), x -> x.blunder(1000));
    }

    private static void heights() {
        index("setHeight no station, below", Books::roomy, x -> x.setHeight(8, -1));
        index("setHeight below, above", Books::roomy, x -> x.setHeight(-1, 1000));
        argument("setHeight below, not above the next", Books::roomy, x -> x.setHeight(0, -1));
        argument("setHeight above, not below the next", Books::roomy, x -> x.setHeight(7, 1000));
    }

    private static void conduit() {
        index("conduit no from, range", Books::roomy, x -> x.conduit(8, 0, 0, 1));
        index("conduit no to, range", Books::roomy, x -> x.conduit(0, -1, 1, 101));
        index("conduit no to, beyond 100", Books::roomy, x -> x.conduit(0, 8, 1, 100));
        index("conduit no from, 12", Books::full, x -> x.conduit(9, 1, 1, 1));
        index("conduit no to, 12", Books::full, x -> x.conduit(8, -1, 1, 1));
        index("conduit no to, beyond 100, 12", Books::full, x -> x.conduit(0, 9, 1, 100));
        index("conduit no station, range, 12", Books::full, x -> x.conduit(-1, -1, 100, 0));
        argument("conduit minutes, upwards", Books::roomy, x -> x.conduit(7, 0, 0, 1));
        argument("conduit hundredths, to itself", Books::roomy, x -> x.conduit(7, 7, 1, 0));
        argument("conduit hundredths, beyond 100", Books::roomy, x -> x.conduit(0, 7, 1, 101));
        argument("conduit minutes, beyond 100", Books::roomy, x -> x.conduit(0, 7, 100, 41));
        argument("conduit minutes, 12", Books::full, x -> x.conduit(0, 8, 100, 1));
        argument("conduit hundredths, 12", Books::full, x -> x.conduit(0, 8, 1, -1));
        argument("conduit range, upwards, 12", Books::full, x -> x.conduit(8, 0, 1, 101));
        unsupported("conduit upwards, 12", Books::full, x -> x.conduit(8, 0, 1, 1));
        unsupported("conduit to itself, 12", Books::full, x -> x.conduit(8, 8, 1, 1));
        unsupported("conduit beyond 100, 12", Books::full, x -> x.conduit(0, 8, 1, 41));
        unsupported("conduit upwards, beyond 100, 12", Books::full, x -> x.conduit(3, 0, 1, 41));
        Refusals.refused("conduit up to 100, 12", Refusals.STATE, Books::full, x -> x.conduit(0, 8, 1, 40));
    }

    private static void water() {
        index("trace no station, amount", Books::roomy, x -> x.trace(8, 0));
        index("trace below, amount above", Books::roomy, x -> x.trace(-1, 100001));
        index("traced no station, minute", Books::roomy, x -> x.traced(8, -1));
        index("traced below, minute", Books::roomy, x -> x.traced(-1, Integer.MIN_VALUE));
        index("peak no station, no trace", () -> Checks.withStations(2), x -> x.peak(2));
        argument("rain hour and rain", Books::roomy, x -> x.rain(200, 100));
        index("sump no shot, level", Books::roomy, x -> x.sump(23, -1));
        index("sump below, level above", Books::roomy, x -> x.sump(-1, 1000));
        index("isClosed no shot, hour", Books::roomy, x -> x.isClosed(23, -1));
        index("isClosed below, hour above", Books::roomy, x -> x.isClosed(-1, 401));
    }

    private static void parties() {
        index("party no station, 4", Books::full, x -> x.party(9));
        index("party below, 4", Books::full, x -> x.party(-1));
        index("tell no party, no shot", Books::roomy, x -> x.tell(3, 23));
        index("knows no party, no shot", Books::roomy, x -> x.knows(-1, -1));
        index("pause no party, hours below", Books::roomy, x -> x.pause(3, 0));
        index("pause below, hours above", Books::roomy, x -> x.pause(-1, 49));
        argument("pause hours above, above 199", () -> at(1, 199), x -> x.pause(0, 49));
    }

    /** Party 0 at a station of a chain 0, 1, 2 in an hour; the shot 2 is set aside, the shot 3 closed. */
    private static Cavernbook at(int station, int hour) {
        Cavernbook x = Checks.withStations(3);
        x.shot(0, 1, 0, 1, 1, 1, 1, 1);
        x.shot(1, 2, 0, 1, 1, 1, 1, 1);
        x.shot(0, 1, 0, 1, 1, 1, 1, 1);
        x.shot(0, 1, 0, 1, 1, 1, 1, 1);
        x.setAside(2, 999);
        x.sump(3, 1);
        x.rain(hour, 99);
        x.party(station);
        for (int left = hour; left > 0; left -= 48) {
            x.pause(0, Math.min(left, 48));
        }
        return x;
    }

    private static void go() {
        index("go no party, elsewhere", () -> at(0, 5), x -> x.go(1, 1));
        index("go no shot, in the hour 199", () -> at(0, 199), x -> x.go(0, 4));
        index("go no party, in the hour 199", () -> at(0, 199), x -> x.go(-1, 0));
        index("go no party, no shot", () -> at(0, 199), x -> x.go(1, 4));
        unsupported("go elsewhere, in the hour 199", () -> at(0, 199), x -> x.go(0, 1));
        unsupported("go along what was set aside, in the hour 199", () -> at(0, 199), x -> x.go(0, 2));
        unsupported("go through water, in the hour 199", () -> at(0, 199), x -> x.go(0, 3));
        unsupported("go elsewhere through water, in the hour 199", () -> at(2, 199), x -> x.go(0, 3));
        Refusals.refused("go in the hour 199", Refusals.STATE, () -> at(0, 199), x -> x.go(0, 0));
    }

    private static void plans() {
        index("plan no party, no plan", () -> at(1, 0), x -> x.plan(1));
        index("planAt no party, index", () -> at(1, 0), x -> x.planAt(1, -1));
        index("planAt below, index", () -> at(0, 0), x -> x.planAt(-1, 50));
        index("lastChance no party", () -> at(1, 0), x -> x.lastChance(-1));
        Refusals.refused("planAt no plan, index below", Refusals.NO_ELEMENT, () -> at(1, 0), x -> x.planAt(0, -1));
        Refusals.refused("planAt no plan, index above", Refusals.NO_ELEMENT, () -> at(1, 0), x -> x.planAt(0, 51));
    }

    private static void sums() {
        argument("hungShare day below, no stations", Cavernbook::new, x -> x.hungShare(-1));
        argument("hungShare day above, no stations", Cavernbook::new, x -> x.hungShare(1000));
    }
}
