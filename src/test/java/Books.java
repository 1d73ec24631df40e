/** Books that tests begin with; each call makes a new one, the same each time. */
final class Books {
    private Books() {
    }

    /** 8 stations, 23 shots, 7 joins, 11 conduits, 3 parties: of each there can be just one more. */
    static Cavernbook roomy() {
        return filled(8, 23, 7, 11, 3);
    }

    /** 9 stations, 24 shots, 8 joins, 12 conduits, 4 parties: of none there can be more. */
    static Cavernbook full() {
        return filled(9, 24, 8, 12, 4);
    }

    /**
     * A chain of stations with some shots a link, all on days of their own; the last two stations are one from the
     * day 950 on, the shot 5 is set aside on the day 970.
     */
    private static Cavernbook filled(int stations, int shots, int joins, int conduits, int parties) {
        Cavernbook x = Checks.withStations(stations);
        int links = stations - 1;
        for (int i = 0; i < shots; i++) {
            x.shot(i % links, i % links + 1, 40 * i, 10 + i, -i, 3 * i % 7 - 3, 1 + i, 1 + i % 4);
            x.sump(i, i % 3 == 0 ? 0 : 20 * i);
        }
        x.setAside(5, 970);
        for (int i = 0; i < joins; i++) {
            x.join(stations - 1, stations - 2, 950 + i);
        }
        water(x, stations, conduits);
        for (int i = 0; i < parties; i++) {
            party(x, i);
        }
        return x;
    }

    private static void water(Cavernbook x, int stations, int conduits) {
        for (int i = 0; i < stations; i++) {
            x.setHeight(i, 900 - 100 * i);
        }
        for (int i = 0; i < conduits; i++) {
            x.conduit(i % (stations - 1), i % (stations - 1) + 1, 1 + i, 30);
        }
        x.trace(0, 100000);
        x.rain(0, 99);
        x.rain(1, 98);
        x.rain(60, 7);
        x.rain(199, 1);
    }

    /** At the station 1, 2, 3 or 4, in an hour of its own, with the shots that lead from there to the entrance. */
    private static void party(Cavernbook x, int number) {
        x.party(number + 1);
        for (int shot = 0; shot <= number; shot++) {
            x.tell(number, shot);
        }
        x.pause(number, 10 + number);
    }

    /** Two stations with three shots between them, and three parties at the entrance in the hour 0. */
    static Cavernbook twoWithParties() {
        Cavernbook x = Checks.withStations(2);
        for (int i = 0; i < 3; i++) {
            x.shot(0, 1, 0, 1, 1, 1, 1, 1);
            x.party(0);
        }
        return x;
    }

    /** Stations of these heights, and nothing else. */
    static Cavernbook heights(int... heights) {
        Cavernbook x = Checks.withStations(heights.length);
        for (int i = 0; i < heights.length; i++) {
            x.setHeight(i, heights[i]);
        }
        return x;
    }
}
