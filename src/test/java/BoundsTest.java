/**
 * Every number that a call takes, call by call in the order of the promises: at the last ones that are allowed and
 * at the first ones that are not, on both sides, and at the least and the greatest int. What is refused changes
 * nothing.
 */
public final class BoundsTest {
    private static final int LEAST = Integer.MIN_VALUE;
    private static final int GREATEST = Integer.MAX_VALUE;

    interface Numbered {
        Object of(Cavernbook x, int number);
    }

    private BoundsTest() {
    }

    public static void main(String[] args) {
        shotBounds();
        setAsideBounds();
        joinBounds();
        hungBounds();
        placeBounds();
        figureBounds();
        heightBounds();
        conduitBounds();
        traceBounds();
        rainBounds();
        sumpBounds();
        partyBounds();
        goBounds();
        pauseBounds();
        planBounds();
        sumBounds();
        Checks.finish();
    }

    /** From least to greatest a call answers, the two answers being told; beyond it is refused. */
    private static void within(String name, int least, int greatest, String refusal, Refusals.Maker maker,
            Numbered call, Object atLeast, Object atGreatest) {
        Cavernbook low = maker.make();
        Checks.due(name + " " + least, atLeast, () -> call.of(low, least));
        Cavernbook high = maker.make();
        Checks.due(name + " " + greatest, atGreatest, () -> call.of(high, greatest));
        refusedAt(name, least - 1, refusal, maker, call);
        refusedAt(name, LEAST, refusal, maker, call);
        if (greatest < GREATEST) {
            refusedAt(name, greatest + 1, refusal, maker, call);
            refusedAt(name, GREATEST, refusal, maker, call);
        }
    }

    private static void refusedAt(String name, int number, String refusal, Refusals.Maker maker, Numbered call) {
        Refusals.refused(name + " " + number, refusal, maker, x -> call.of(x, number));
    }

    /** A number of a station, 0 to 7, of a book with 8 of them. */
    private static void station(String name, Numbered call, Object atLeast, Object atGreatest) {
        within(name, 0, 7, Refusals.INDEX, Books::roomy, call, atLeast, atGreatest);
    }

    /** A number of a shot, 0 to 22, of a book with 23 of them. */
    private static void shot(String name, Numbered call, Object atLeast, Object atGreatest) {
        within(name, 0, 22, Refusals.INDEX, Books::roomy, call, atLeast, atGreatest);
    }

    /** A number of a party, 0 to 2, of a book with 3 of them. */
    private static void party(String name, Numbered call, Object atLeast, Object atGreatest) {
        within(name, 0, 2, Refusals.INDEX, Books::roomy, call, atLeast, atGreatest);
    }

    private static void day(String name, Numbered call, Object atLeast, Object atGreatest) {
        range(name, 0, 999, call, atLeast, atGreatest);
    }

    private static void range(String name, int least, int greatest, Numbered call, Object atLeast, Object atGreatest) {
        within(name, least, greatest, Refusals.ARGUMENT, Books::roomy, call, atLeast, atGreatest);
    }

    private static void shotBounds() {
        station("shot from", (x, n) -> x.shot(n, 3, 0, 1, 1, 1, 1, 1), 23, 23);
        station("shot to", (x, n) -> x.shot(3, n, 0, 1, 1, 1, 1, 1), 23, 23);
        day("shot on", (x, n) -> x.shot(0, 3, n, 1, 1, 1, 1, 1), 23, 23);
        range("shot east", -999, 999, (x, n) -> x.shot(0, 3, 0, n, 1, 1, 1, 1), 23, 23);
        range("shot north", -999, 999, (x, n) -> x.shot(0, 3, 0, 1, n, 1, 1, 1), 23, 23);
        range("shot up", -999, 999, (x, n) -> x.shot(0, 3, 0, 1, 1, n, 1, 1), 23, 23);
        range("shot length", 1, 999, (x, n) -> x.shot(0, 3, 0, 1, 1, 1, n, 1), 23, 23);
        range("shot weight", 1, 4, (x, n) -> x.shot(0, 3, 0, 1, 1, 1, 1, n), 23, 23);
        Refusals.refused("shot from 3 to 3", Refusals.ARGUMENT, Books::roomy, x -> x.shot(3, 3, 0, 1, 1, 1, 1, 1));
    }

    private static void setAsideBounds() {
        shot("setAside", (x, n) -> x.setAside(n, 3), false, false);
        day("setAside on", (x, n) -> x.setAside(0, n), false, false);
        day("setAside again on", (x, n) -> x.setAside(5, n), true, true);
    }

    private static void joinBounds() {
        station("join", (x, n) -> x.join(n, 3, 1), true, true);
        station("join with", (x, n) -> x.join(3, n, 1), true, true);
        day("join on", (x, n) -> x.join(7, 6, n), true, false);
        Refusals.refused("join 3 with 3", Refusals.ARGUMENT, Books::roomy, x -> x.join(3, 3, 1));
        station("oneWith", (x, n) -> x.oneWith(n, 950), 0, 6);
        day("oneWith on", (x, n) -> x.oneWith(7, n), 7, 6);
    }

    private static void hungBounds() {
        station("isHung", (x, n) -> x.isHung(n, 239), true, false);
        day("isHung on", (x, n) -> x.isHung(1, n), true, true);
        day("isHung at last on", (x, n) -> x.isHung(7, n), false, true);
    }

    /** On the day 240 there is one shot a link, so that 7 is at 10 + 11 + .. + 16. */
    private static void placeBounds() {
        station("top", (x, n) -> x.top(n, 0, 240), 0L, 91L);
        within("top axis", 0, 2, Refusals.INDEX, Books::roomy, (x, n) -> x.top(1, n, 0), 10L, -3L);
        day("top on", (x, n) -> x.top(1, 0, n), 10L, 106L);
        station("bottom", (x, n) -> x.bottom(n, 0, 999), 1L, 180L);
        within("bottom axis", 0, 2, Refusals.INDEX, Books::roomy, (x, n) -> x.bottom(3, n, 999), 15L, 1L);
        day("bottom on", (x, n) -> x.bottom(1, 0, n), 1L, 5L);
        Refusals.refused("top of what is not hung", Refusals.NO_ELEMENT, Books::roomy, x -> x.top(7, 0, 239));
        Refusals.refused("bottom of what is not hung", Refusals.NO_ELEMENT, Books::roomy, x -> x.bottom(7, 0, 239));
    }

    private static void figureBounds() {
        day("loops", (x, n) -> x.loops(n), 0, 13);
        shot("fault", (x, n) -> x.fault(n, 999), 250880L, 141120L);
        day("fault on", (x, n) -> x.fault(0, n), 0L, 250880L);
        day("allFaults", (x, n) -> x.allFaults(n), 0L, 3252511L);
        day("blunder", (x, n) -> x.blunder(n), Refusals.NO_ELEMENT, 1);
        day("length", (x, n) -> x.length(n), 1, 228);
        day("depth", (x, n) -> x.depth(n), 300L, 400L);
        Refusals.refused("fault ahead of its day", Refusals.NO_ELEMENT, Books::roomy, x -> x.fault(1, 39));
        Refusals.refused("fault when set aside", Refusals.NO_ELEMENT, Books::roomy, x -> x.fault(5, 970));
        Refusals.refused("fault of no use", Refusals.NO_ELEMENT, Books::roomy, x -> x.fault(6, 950));
        Refusals.refused("no blunder", Refusals.NO_ELEMENT, Books::roomy, x -> x.blunder(240));
    }

    private static void heightBounds() {
        station("setHeight", (x, n) -> x.setHeight(n, n == 0 ? 999 : 0), 900, 200);
        within("setHeight to", 0, 999, Refusals.ARGUMENT, () -> Books.heights(7, 8, 9), (x, n) -> x.setHeight(1, n),
            8, 8);
        within("setHeight between", 701, 899, Refusals.UNSUPPORTED, Books::roomy,
            (x, n) -> x.setHeight(1, n < 0 || n > 999 ? 900 : n), 800, 800);
    }

    private static void conduitBounds() {
        within("conduit from", 0, 2, Refusals.INDEX, () -> Books.heights(5, 0, 5), (x, n) -> x.conduit(n, 1, 1, 1),
            1, 1);
        within("conduit to", 0, 2, Refusals.INDEX, () -> Books.heights(0, 5, 0), (x, n) -> x.conduit(1, n, 1, 1),
            1, 1);
        within("conduit minutes", 1, 99, Refusals.ARGUMENT, () -> Books.heights(0, 1), (x, n) -> x.conduit(1, 0, n, 1),
            1, 1);
        within("conduit hundredths", 1, 100, Refusals.ARGUMENT, () -> Books.heights(0, 1),
            (x, n) -> x.conduit(1, 0, 1, n), 1, 1);
        range("conduit minutes of 12", 1, 99, (x, n) -> x.conduit(0, 7, n, 40), 12, 12);
        Refusals.refused("conduit beyond 100", Refusals.UNSUPPORTED, Books::roomy, x -> x.conduit(0, 7, 1, 41));
        Refusals.refused("conduit to itself", Refusals.UNSUPPORTED, Books::roomy, x -> x.conduit(7, 7, 1, 1));
        Refusals.refused("conduit upwards", Refusals.UNSUPPORTED, Books::roomy, x -> x.conduit(7, 6, 1, 1));
        Refusals.refused("conduit on a level", Refusals.UNSUPPORTED, () -> Books.heights(4, 4),
            x -> x.conduit(1, 0, 1, 1));
        Checks.due("conduit down by one", 1, () -> Books.heights(4, 5).conduit(1, 0, 1, 1));
        Checks.due("conduit from 999 to 0", 1, () -> Books.heights(0, 999).conduit(1, 0, 1, 1));
    }

    private static void traceBounds() {
        station("trace", (x, n) -> x.trace(n, 1), 1, 1);
        range("trace of", 1, 100000, (x, n) -> x.trace(0, n), 1, 8);
        station("traced", (x, n) -> x.traced(n, 0), 40000, 0);
        within("traced in", 0, GREATEST, Refusals.ARGUMENT, Books::roomy, (x, n) -> x.traced(0, n), 40000, 0);
        station("peak", (x, n) -> x.peak(n), 0, 42);
        Refusals.refused("peak of nothing", Refusals.NO_ELEMENT, BoundsTest::oneDrop, x -> x.peak(1));
        Checks.due("peak of one drop", 0, () -> oneDrop().peak(0));
    }

    /** The last trace was of the amount 1, of which no conduit takes anything. */
    private static Cavernbook oneDrop() {
        Cavernbook x = Books.roomy();
        x.trace(0, 1);
        return x;
    }

    private static void rainBounds() {
        range("rain in", 0, 199, (x, n) -> x.rain(n, 5), 99, 1);
        range("rain of", 0, 99, (x, n) -> x.rain(0, n), 99, 99);
        range("water", 0, 400, (x, n) -> x.water(n), 99, 0);
    }

    private static void sumpBounds() {
        shot("sump", (x, n) -> x.sump(n, 7), 0, 440);
        range("sump at", 0, 999, (x, n) -> x.sump(22, n), 440, 440);
        shot("isClosed", (x, n) -> x.isClosed(n, 1), false, false);
        range("isClosed in", 0, 400, (x, n) -> x.isClosed(4, n), true, false);
    }

    private static void partyBounds() {
        station("party", (x, n) -> x.party(n), 3, 3);
        party("tell", (x, n) -> x.tell(n, 22), 2, 4);
        shot("tell of", (x, n) -> x.tell(0, n), 1, 2);
        party("knows", (x, n) -> x.knows(n, 2), false, true);
        shot("knows of", (x, n) -> x.knows(0, n), true, false);
        party("placeOf", (x, n) -> x.placeOf(n), 1, 3);
        party("hourOf", (x, n) -> x.hourOf(n), 10, 12);
    }

    private static void goBounds() {
        within("go", 0, 2, Refusals.INDEX, Books::twoWithParties, (x, n) -> x.go(n, 0), 1, 1);
        within("go along", 0, 2, Refusals.INDEX, Books::twoWithParties, (x, n) -> x.go(0, n), 1, 1);
        Refusals.refused("go along what leads elsewhere", Refusals.UNSUPPORTED, Books::roomy, x -> x.go(0, 2));
        Refusals.refused("go along what was set aside", Refusals.UNSUPPORTED, () -> setAside(999), x -> x.go(0, 0));
        Refusals.refused("go through water", Refusals.UNSUPPORTED, () -> wet(0), x -> x.go(0, 0));
        Checks.due("go ahead of the water", 1, () -> wet(1).go(0, 0));
        Refusals.refused("go in the hour 199", Refusals.STATE, () -> late(199), x -> x.go(0, 0));
        Checks.due("go in the hour 198", 1, () -> late(198).go(0, 0));
    }

    private static Cavernbook setAside(int day) {
        Cavernbook x = Books.twoWithParties();
        x.setAside(0, day);
        return x;
    }

    private static Cavernbook wet(int hour) {
        Cavernbook x = Books.twoWithParties();
        x.rain(hour, 50);
        x.sump(0, 50);
        return x;
    }

    /** The parties are at the entrance in a late hour. */
    private static Cavernbook late(int hour) {
        Cavernbook x = Books.twoWithParties();
        for (int p = 0; p < 3; p++) {
            for (int left = hour; left > 0; left -= 48) {
                x.pause(p, Math.min(left, 48));
            }
        }
        return x;
    }

    private static void pauseBounds() {
        party("pause", (x, n) -> x.pause(n, 1), 11, 13);
        range("pause for", 1, 48, (x, n) -> x.pause(0, n), 11, 58);
        within("pause up to 199", 1, 48, Refusals.ARGUMENT, () -> late(151), (x, n) -> x.pause(0, n), 152, 199);
        within("pause up to 199 only", 1, 47, Refusals.ARGUMENT, () -> late(152), (x, n) -> x.pause(0, n), 153, 199);
        within("pause one hour only", 1, 1, Refusals.ARGUMENT, () -> late(198), (x, n) -> x.pause(0, n), 199, 199);
        Refusals.refused("pause in the hour 199", Refusals.ARGUMENT, () -> late(199), x -> x.pause(0, 1));
    }

    private static void planBounds() {
        party("plan", (x, n) -> x.plan(n), 11, 15);
        party("planAt", (x, n) -> x.planAt(n, 0), 0, 2);
        within("planAt index", 0, 2, Refusals.ARGUMENT, Books::roomy, (x, n) -> x.planAt(2, n), 2, 0);
        party("lastChance", (x, n) -> x.lastChance(n), 59, 59);
        Refusals.refused("planAt at the entrance", Refusals.ARGUMENT, Books::twoWithParties, x -> x.planAt(0, 0));
        for (int i = 0; i < 3; i++) {
            int kind = i;
            Refusals.refused("without a plan " + i, Refusals.NO_ELEMENT, BoundsTest::lost, x -> kind == 0 ? x.plan(3)
                : kind == 1 ? x.planAt(3, 0) : x.lastChance(3));
        }
    }

    /** A fourth party that knows of no shot. */
    private static Cavernbook lost() {
        Cavernbook x = Books.roomy();
        x.party(7);
        return x;
    }

    private static void sumBounds() {
        day("hungShare", (x, n) -> x.hungShare(n), 0.25f, 1.0f);
        day("isSound", (x, n) -> x.isSound(n), true, true);
    }
}
