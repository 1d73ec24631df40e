/** The Terms of the document, sentence by sentence, where a sentence names a case at an edge. */
public final class TermsTest {
    private TermsTest() {
    }

    public static void main(String[] args) {
        daysOfAShot();
        daysOfAJoin();
        joinsOfJoins();
        noUse();
        hungOverOthers();
        leastSum();
        blunders();
        equalBlunders();
        depthRoundedDown();
        heightsAreNoPlaces();
        hundredthsOfOneAmount();
        peaks();
        roundedWater();
        levels();
        whatAPartyKnows();
        wayOfAParty();
        onesOfAParty();
        fiftyHours();
        firstPlan();
        lastChances();
        manyCalls();
        manyOfOneCall();
        Checks.finish();
    }

    /** "of this day or an earlier one, and was not set aside on this day or earlier"; days in any order. */
    private static void daysOfAShot() {
        Cavernbook x = Checks.withStations(2);
        x.shot(0, 1, 500, 0, 0, 7, 10, 1);
        x.shot(0, 1, 0, 0, 0, 7, 1, 1);
        x.shot(0, 1, 999, 0, 0, 7, 100, 1);
        int[][] want = {{0, 1}, {499, 1}, {500, 11}, {998, 11}, {999, 111}};
        for (int[] w : want) {
            Checks.due("length on " + w[0], w[1], () -> x.length(w[0]));
        }
        x.setAside(1, 501);
        x.setAside(0, 500);
        x.setAside(2, 999);
        int[][] then = {{0, 1}, {499, 1}, {500, 1}, {501, 0}, {998, 0}, {999, 0}};
        for (int[] w : then) {
            Checks.due("length then on " + w[0], w[1], () -> x.length(w[0]));
        }
        Checks.due("in place of another day, later", true, () -> x.setAside(0, 999));
        Checks.due("counts up to then", 10, () -> x.length(998));
        Checks.due("not on that day", 0, () -> x.length(999));
        Checks.due("in place of another day, ahead of its own", true, () -> x.setAside(0, 499));
        Checks.due("on its day", 0, () -> x.length(501));
    }

    /** "from a day on; the lower number is that of both then": on the day, not on the one ahead of it. */
    private static void daysOfAJoin() {
        for (int day : new int[] {0, 1, 500, 999}) {
            Cavernbook x = Checks.withStations(4);
            Checks.due("two up to then " + day, true, () -> x.join(3, 1, day));
            Checks.due("the higher one " + day, 1, () -> x.oneWith(3, day));
            Checks.due("the lower one " + day, 1, () -> x.oneWith(1, day));
            Checks.due("another one " + day, 2, () -> x.oneWith(2, day));
            Checks.due("the last day " + day, 1, () -> x.oneWith(3, 999));
            Checks.due("told twice, the other way round " + day, false, () -> x.join(1, 3, day));
            if (day > 0) {
                Checks.due("the day ahead " + day, 3, () -> x.oneWith(3, day - 1));
                Checks.due("two on the day ahead " + day, true, () -> x.join(1, 3, day - 1));
                Checks.due("one then " + day, 1, () -> x.oneWith(3, day - 1));
            }
        }
    }

    /** "with all that are one with them then": two pairs, made one by a third join, earlier and later. */
    private static void joinsOfJoins() {
        Cavernbook x = Checks.withStations(6);
        x.join(5, 4, 10);
        x.join(3, 2, 20);
        Checks.due("pairs are two", true, () -> x.join(5, 3, 15));
        Checks.due("on 15 the 4 is with 3", 3, () -> x.oneWith(4, 15));
        Checks.due("on 15 the 2 is not", 2, () -> x.oneWith(2, 15));
        Checks.due("on 19 the 5 is with 3", 3, () -> x.oneWith(5, 19));
        Checks.due("on 20 all are with 2", 2, () -> x.oneWith(4, 20));
        Checks.due("on 14 the 5 is with 4", 4, () -> x.oneWith(5, 14));
        Checks.due("one over others", false, () -> x.join(4, 2, 20));
        Checks.due("two on the day ahead", true, () -> x.join(4, 2, 19));
        Checks.due("one then", 2, () -> x.oneWith(4, 19));
        Checks.due("0 and 1 are apart", 1, () -> x.oneWith(1, 999));
    }

    /** "Shots between both are of no use from this day on", nor those between stations that are one over others. */
    private static void noUse() {
        Cavernbook x = Checks.withStations(3);
        x.shot(0, 1, 0, 9, 0, 0, 5, 1);
        x.shot(1, 2, 0, 9, 0, 100, 50, 1);
        x.shot(2, 0, 0, 0, 0, 0, 500, 1);
        x.join(0, 1, 10);
        x.join(1, 2, 20);
        Checks.due("length ahead", 555, () -> x.length(9));
        Checks.due("length on the day", 550, () -> x.length(10));
        Checks.due("loops ahead", 1, () -> x.loops(9));
        Checks.due("loops on the day", 1, () -> x.loops(10));
        Checks.due("loops of no use", 0, () -> x.loops(20));
        Checks.due("fault ahead", 1147111L, () -> x.fault(0, 9));
        Checks.noElement("fault on the day", () -> x.fault(0, 10));
        Checks.due("fault of another one", 2520250L, () -> x.fault(1, 10));
        Checks.noElement("fault over others", () -> x.fault(2, 20));
        Checks.due("all on the day", 5040500L, () -> x.allFaults(10));
        Checks.due("all of no use", 0L, () -> x.allFaults(20));
        Checks.due("blunder on the day", 1, () -> x.blunder(10));
        Checks.noElement("blunder of no use", () -> x.blunder(20));
    }

    /** "lead from the entrance, either way, over others": against the shots, in any order of numbers and days. */
    private static void hungOverOthers() {
        Cavernbook x = Checks.withStations(9);
        for (int i = 8; i > 0; i--) {
            x.shot(i % 2 == 0 ? i : i - 1, i % 2 == 0 ? i - 1 : i, i, 1, 0, 0, 1, 1);
        }
        for (int i = 0; i < 9; i++) {
            int s = i;
            Checks.due("hung on its day " + s, true, () -> x.isHung(s, Math.max(s, 0)));
            Checks.due("not ahead of it " + s, s == 0, () -> x.isHung(s, Math.max(s - 1, 0)));
            Checks.due("share " + s, (s + 1) / 9.0f, () -> x.hungShare(s));
        }
        Checks.due("some one way, some the other", 0L, () -> x.top(8, 0, 8));
        x.setAside(4, 9);
        Checks.due("hung ahead of what was set aside", true, () -> x.isHung(3, 9));
        Checks.due("not behind it", false, () -> x.isHung(4, 9));
        Checks.due("nor at the end", false, () -> x.isHung(8, 9));
        x.join(8, 3, 10);
        Checks.due("hung from the other end", true, () -> x.isHung(4, 10));
        Checks.due("as it leads there", 1L, () -> x.top(4, 0, 10));
    }

    /** "the weight times the square of the residual"; a fault has no weight, the sum of all has. */
    private static void leastSum() {
        Cavernbook x = Checks.withStations(2);
        x.shot(0, 1, 0, 10, -10, 0, 1, 1);
        x.shot(1, 0, 0, -20, 20, 1, 1, 4);
        Checks.due("east", 18L, () -> x.top(1, 0, 0));
        Checks.due("north", -18L, () -> x.top(1, 1, 0));
        Checks.due("up", -4L, () -> x.top(1, 2, 0));
        Checks.due("up by", 5L, () -> x.bottom(1, 2, 0));
        Checks.due("fault of the weak one", 128640L, () -> x.fault(0, 0));
        Checks.due("fault of the strong one", 8040L, () -> x.fault(1, 0));
        Checks.due("all", 160800L, () -> x.allFaults(0));
        Checks.due("one loop", 1, () -> x.loops(0));
        Checks.due("either makes all of it less", 0, () -> x.blunder(0));
    }

    /** "less by most", "all stations stay hung", "of several the lowest number; only if it is less by that". */
    private static void blunders() {
        Cavernbook x = Checks.withStations(3);
        x.shot(0, 1, 0, 1, 0, 0, 1, 1);
        x.shot(0, 1, 1, 1, 0, 0, 1, 4);
        Checks.noElement("by nothing", () -> x.blunder(1));
        x.shot(0, 1, 2, 2, 0, 0, 1, 1);
        Checks.due("by one only", 2, () -> x.blunder(2));
        x.setAside(0, 3);
        Checks.due("the same by both", 1, () -> x.blunder(3));
        x.shot(1, 2, 4, 999, 0, 0, 1, 1);
        Checks.due("not what hangs a station", 1, () -> x.blunder(4));
        x.shot(2, 0, 5, 0, 0, 0, 1, 1);
        Checks.due("what hangs none alone", 3, () -> x.blunder(5));
        x.setAside(1, 6);
        x.setAside(2, 6);
        Checks.noElement("nothing is left over", () -> x.blunder(6));
    }

    /** The same sum is left without either shot of a loop, as a fraction of another bottom each; a worse loop wins. */
    private static void equalBlunders() {
        for (int weight : new int[] {1, 4}) {
            Cavernbook x = Checks.withStations(4);
            x.shot(0, 3, 0, 1, 0, 0, 1, 1);
            x.shot(0, 3, 0, 2, 0, 0, 1, 2);
            x.shot(0, 1, 1, 10, 0, 0, 1, weight);
            x.shot(1, 0, 1, -20, 0, 0, 1, 5 - weight);
            x.shot(0, 2, 2, 0, 11, 0, 1, 3);
            x.shot(2, 0, 2, 0, 0, 0, 1, 3);
            Checks.due("the lowest of the small loop " + weight, 0, () -> x.blunder(0));
            Checks.due("the lowest of the greater loop " + weight, 2, () -> x.blunder(1));
            Checks.due("less by most " + weight, 4, () -> x.blunder(2));
        }
    }

    /** Thirds of a step, up and down. */
    private static void depthRoundedDown() {
        for (int up : new int[] {1, -1, 2, -2, 299, -299}) {
            Cavernbook x = Checks.withStations(2);
            x.shot(0, 1, 0, 0, 0, up, 1, 1);
            x.shot(0, 1, 0, 0, 0, 0, 1, 2);
            Checks.due("depth by thirds of " + up, Math.abs(up) * 100L / 3, () -> x.depth(0));
            Checks.due("fault by ninths of " + up, up * up * 1000L / 9, () -> x.fault(1, 0));
            Checks.due("all by thirds of " + up, up * up * 2000L / 3, () -> x.allFaults(0));
        }
    }

    /** "Each station has a height, told, .. which has nothing to do with its place". */
    private static void heightsAreNoPlaces() {
        Cavernbook x = Checks.withStations(2);
        x.shot(0, 1, 0, 0, 0, 500, 1, 1);
        Checks.due("0 at first", 0, () -> x.setHeight(1, 3));
        Checks.due("its place", 500L, () -> x.top(1, 2, 0));
        Checks.due("the depth", 50000L, () -> x.depth(0));
        Checks.unsupported("from the lower one up", () -> x.conduit(0, 1, 1, 1));
        Checks.due("down by its height", 1, () -> x.conduit(1, 0, 1, 1));
        x.join(0, 1, 0);
        Checks.due("heights of stations that are one", 3, () -> x.setHeight(1, 5));
    }

    /** "what comes to a station in a minute, from all sides, is one amount; .. each conduit .. rounded down". */
    private static void hundredthsOfOneAmount() {
        Cavernbook x = Books.heights(30, 20, 20, 10, 0);
        x.conduit(0, 1, 2, 50);
        x.conduit(0, 2, 1, 50);
        x.conduit(1, 3, 1, 100);
        x.conduit(2, 3, 2, 100);
        x.conduit(3, 4, 1, 34);
        x.conduit(3, 4, 1, 33);
        x.conduit(3, 4, 1, 33);
        Checks.due("one amount of two halves", 1, () -> x.trace(0, 100));
        Checks.due("100 go on", 100, () -> x.traced(4, 4));
        Checks.due("of 4, one by each, not of two and two", 2, () -> x.trace(0, 4));
        Checks.due("3 go", 3, () -> x.traced(4, 4));
        Checks.due("1 stays", 1, () -> x.traced(3, 3));
        Checks.due("of an odd amount one stays", 3, () -> x.trace(0, 7));
        Checks.due("it stays at once", 1, () -> x.traced(0, 0));
        Checks.unsupported("100 are given", () -> x.conduit(0, 4, 99, 1));
        Checks.due("6 by 34, 33 and 33", 4, () -> x.traced(4, 4));
    }

    /** "the peak of a station is the minute with the most, of several the earliest". */
    private static void peaks() {
        Cavernbook x = Books.heights(1, 0, 0);
        x.conduit(0, 1, 9, 20);
        x.conduit(0, 1, 5, 20);
        x.conduit(0, 1, 7, 21);
        x.conduit(0, 2, 3, 10);
        x.conduit(0, 2, 2, 10);
        Checks.due("all three", 3, () -> x.trace(0, 100));
        Checks.due("the most", 7, () -> x.peak(1));
        Checks.due("of several the earliest", 2, () -> x.peak(2));
        Checks.due("in the minute 0", 0, () -> x.peak(0));
        Checks.due("of five, nothing by a tenth", 2, () -> x.trace(0, 5));
        Checks.due("the earliest then", 5, () -> x.peak(1));
        Checks.noElement("nothing by a tenth", () -> x.peak(2));
    }

    /** "at what it was times 3, divided by 4 and rounded down, plus the rain": 1, 2 and 3 go to 0, 1 and 2. */
    private static void roundedWater() {
        int[][] want = {{0, 0}, {1, 0}, {2, 1}, {3, 2}, {4, 3}, {5, 3}, {6, 4}, {7, 5}, {8, 6}, {99, 74}};
        for (int[] w : want) {
            Cavernbook x = new Cavernbook();
            x.rain(198, w[0]);
            Checks.due("ahead of it, by " + w[0], 0, () -> x.water(197));
            Checks.due("in the hour, by " + w[0], w[0], () -> x.water(198));
            Checks.due("an hour later, by " + w[0], w[1], () -> x.water(199));
            x.rain(199, 10);
            Checks.due("plus the rain, by " + w[0], w[1] + 10, () -> x.water(199));
        }
    }

    /** "closed in an hour if the water at the end of this hour is at least the level". */
    private static void levels() {
        for (int level : new int[] {1, 2, 98, 99}) {
            Cavernbook x = Checks.withStations(2);
            x.shot(0, 1, 0, 0, 0, 0, 1, 1);
            x.sump(0, level);
            x.rain(7, level);
            Checks.due("the hour ahead " + level, false, () -> x.isClosed(0, 6));
            Checks.due("at the level " + level, true, () -> x.isClosed(0, 7));
            Checks.due("the hour behind " + level, false, () -> x.isClosed(0, 8));
            x.rain(7, level - 1);
            Checks.due("below the level " + level, false, () -> x.isClosed(0, 7));
            Checks.due("what it was " + level, level, () -> x.sump(0, 0));
            x.rain(7, 99);
            Checks.due("no sump any more " + level, false, () -> x.isClosed(0, 7));
            Checks.due("none " + level, 0, () -> x.sump(0, 999));
            Checks.due("the greatest level " + level, false, () -> x.isClosed(0, 7));
        }
    }

    /** "A party knows shots that were told to it, and those along which it went; none at first." */
    private static void whatAPartyKnows() {
        Cavernbook x = Checks.withStations(3);
        x.shot(0, 1, 0, 0, 0, 0, 1, 1);
        x.shot(1, 2, 0, 0, 0, 0, 1, 1);
        x.party(1);
        x.party(1);
        Checks.due("none at first", false, () -> x.knows(0, 0));
        Checks.noElement("so it has no plan", () -> x.plan(0));
        Checks.due("it can go along what it does not know", 2, () -> x.go(0, 1));
        Checks.due("it knows that then", true, () -> x.knows(0, 1));
        Checks.due("the other one does not", false, () -> x.knows(1, 1));
        Checks.noElement("it does not know the way out", () -> x.plan(0));
        Checks.due("two with what is told", 2, () -> x.tell(0, 0));
        Checks.due("now it has a plan", 3, () -> x.plan(0));
        Checks.noElement("the other one has none", () -> x.plan(1));
        x.setAside(0, 999);
        Checks.due("it knows also what is set aside", 2, () -> x.tell(0, 0));
        Checks.noElement("which is in no plan", () -> x.plan(0));
    }

    /** "either way, if the shot was not set aside on any day and is not closed in this hour". */
    private static void wayOfAParty() {
        for (int day : new int[] {0, 999}) {
            Cavernbook x = Checks.withStations(2);
            x.shot(0, 1, 999, 0, 0, 0, 1, 1);
            x.party(0);
            Checks.due("ahead of the day of the shot " + day, 1, () -> x.go(0, 0));
            Checks.due("back " + day, 0, () -> x.go(0, 0));
            Checks.due("two hours later " + day, 2, () -> x.hourOf(0));
            x.sump(0, 5);
            x.rain(2, 5);
            Checks.unsupported("closed in this hour " + day, () -> x.go(0, 0));
            Checks.due("still there " + day, 0, () -> x.placeOf(0));
            x.pause(0, 1);
            x.rain(4, 99);
            Checks.due("closed in the next hour only " + day, 1, () -> x.go(0, 0));
            x.sump(0, 0);
            x.setAside(0, day);
            Checks.unsupported("set aside on " + day, () -> x.go(0, 0));
            Checks.due("the hour is as it was " + day, 4, () -> x.hourOf(0));
        }
    }

    /** "which is where it was, if both ends are one for it. Stations that were made one on any day are one for it." */
    private static void onesOfAParty() {
        for (int day : new int[] {0, 500, 999}) {
            Cavernbook x = Checks.withStations(4);
            x.shot(2, 3, 0, 0, 0, 0, 1, 1);
            x.shot(1, 0, 0, 0, 0, 0, 1, 1);
            x.party(3);
            x.tell(0, 0);
            x.tell(0, 1);
            Checks.noElement("no way " + day, () -> x.plan(0));
            x.join(3, 2, day);
            Checks.due("where it is " + day, 2, () -> x.placeOf(0));
            Checks.due("where it was " + day, 2, () -> x.go(0, 0));
            Checks.due("an hour later " + day, 1, () -> x.hourOf(0));
            x.join(1, 3, day);
            Checks.due("the lowest of three " + day, 1, () -> x.placeOf(0));
            Checks.due("a way " + day, 2, () -> x.plan(0));
            Checks.due("not along what leads nowhere " + day, 1, () -> x.planAt(0, 0));
            x.join(0, 2, day);
            Checks.due("at the entrance " + day, 1, () -> x.plan(0));
            Checks.argument("nothing is left to do " + day, () -> x.planAt(0, 0));
            Checks.due("50 hours later " + day, 51, () -> x.lastChance(0));
        }
    }

    /** "at which it is at most 50 hours later": a sump that is open in the 50th hour only, or in the 51st. */
    private static void fiftyHours() {
        for (int start : new int[] {0, 100, 149}) {
            Cavernbook x = Checks.withStations(2);
            x.shot(1, 0, 0, 0, 0, 0, 1, 1);
            x.party(1);
            x.tell(0, 0);
            for (int left = start; left > 0; left -= 48) {
                x.pause(0, Math.min(left, 48));
            }
            x.sump(0, 1);
            for (int h = start; h < start + 49; h++) {
                x.rain(h, 1);
            }
            Checks.due("50 hours later " + start, start + 50, () -> x.plan(0));
            Checks.due("the only chance " + start, start + 49, () -> x.lastChance(0));
            Checks.due("waiting " + start, -1, () -> x.planAt(0, 48));
            Checks.due("going " + start, 0, () -> x.planAt(0, 49));
            Checks.argument("over then " + start, () -> x.planAt(0, 50));
            x.rain(start + 49, 1);
            Checks.noElement("51 hours later " + start, () -> x.plan(0));
            Checks.noElement("no chance " + start, () -> x.lastChance(0));
            Checks.noElement("no step " + start, () -> x.planAt(0, 0));
            x.pause(0, 1);
            Checks.due("again from the next hour on " + start, start + 51, () -> x.plan(0));
        }
    }

    /** "the first one, comparing hour by hour, waiting being ahead of going, and shots by rising numbers". */
    private static void firstPlan() {
        Cavernbook x = Checks.withStations(3);
        x.shot(0, 1, 0, 0, 0, 0, 1, 1);
        x.shot(1, 0, 0, 0, 0, 0, 1, 1);
        x.shot(2, 1, 0, 0, 0, 0, 1, 1);
        x.shot(1, 2, 0, 0, 0, 0, 1, 1);
        x.party(2);
        x.tell(0, 1);
        x.tell(0, 3);
        Checks.due("of those that it knows", 3, () -> x.planAt(0, 0));
        Checks.due("the only one out", 1, () -> x.planAt(0, 1));
        x.tell(0, 2);
        x.tell(0, 0);
        Checks.due("the lower one", 2, () -> x.planAt(0, 0));
        Checks.due("the lower one out", 0, () -> x.planAt(0, 1));
        x.sump(0, 1);
        x.sump(1, 1);
        x.rain(1, 3);
        Checks.due("when 3, 2 and 1 are gone", 5, () -> x.plan(0));
        int[] want = {-1, -1, -1, 2, 1};
        x.sump(0, 0);
        x.setAside(0, 5);
        for (int i = 0; i < 5; i++) {
            int index = i;
            Checks.due("as late as it can " + i, want[index], () -> x.planAt(0, index));
        }
        x.sump(2, 1);
        Checks.due("the other one, which is open", 3, () -> x.planAt(0, 3));
        x.sump(3, 1);
        Checks.due("both closed in between", 5, () -> x.plan(0));
        Checks.due("so it goes first", 2, () -> x.planAt(0, 0));
        Checks.due("and waits there", -1, () -> x.planAt(0, 1));
    }

    /** "the latest hour in which it could begin to go on, having waited where it is". */
    private static void lastChances() {
        Cavernbook x = Checks.withStations(4);
        x.shot(3, 2, 0, 0, 0, 0, 1, 1);
        x.shot(2, 1, 0, 0, 0, 0, 1, 1);
        x.shot(1, 0, 0, 0, 0, 0, 1, 1);
        x.party(3);
        for (int i = 0; i < 3; i++) {
            x.tell(0, i);
        }
        Checks.due("three hours ahead of 50", 47, () -> x.lastChance(0));
        x.sump(1, 50);
        for (int h = 10; h < 60; h++) {
            x.rain(h, 99);
        }
        Checks.due("so that it is at the sump in the hour 9", 8, () -> x.lastChance(0));
        Checks.due("the plan is earlier", 3, () -> x.plan(0));
        x.pause(0, 8);
        Checks.due("now is the last chance", 8, () -> x.lastChance(0));
        Checks.due("the plan goes at once", 0, () -> x.planAt(0, 0));
        x.pause(0, 1);
        Checks.noElement("too late", () -> x.lastChance(0));
        x.rain(40, 0);
        Checks.noElement("the water stands still", () -> x.plan(0));
        x.sump(1, 0);
        Checks.due("without the sump", 56, () -> x.lastChance(0));
    }

    /** "An object is used for at most 512 calls": 4, 199 times 2, 110. */
    private static void manyCalls() {
        Cavernbook x = Checks.withStations(2);
        x.shot(0, 1, 0, 0, 0, 0, 1, 1);
        x.party(0);
        for (int hour = 0; hour < 199; hour++) {
            int then = hour;
            Checks.due("no rain yet in " + then, 0, () -> x.rain(then, then % 2));
            Checks.due("to and fro in " + then, 1 - then % 2, () -> x.go(0, 0));
        }
        for (int hour = 0; hour < 110; hour++) {
            int then = hour;
            Checks.due("the water in " + then, then % 2, () -> x.water(then));
        }
    }

    /** 2, 1, 1, and 508 of one kind, of which the last answers as the first. */
    private static void manyOfOneCall() {
        Cavernbook x = Checks.withStations(2);
        x.shot(0, 1, 0, 0, 0, 0, 1, 1);
        x.party(1);
        for (int i = 0; i < 508; i++) {
            Checks.due("told once more " + i, 1, () -> x.tell(0, 0));
        }
    }
}
