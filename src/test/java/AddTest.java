/** Promises 4 to 9: what is added to the coast ahead of the storm; a test for each sentence. */
public final class AddTest {
    public static void main(String[] args) {
        p04EachOf112PlacesIsTaken();
        p04CellFrom0To63();
        p04NoNeighbourBeyondTheEdges();
        p04CrestFrom0To99();
        p04StrengthFrom2To99();
        p04OneAtEachPlace();
        p04SixteenDikes();
        p04NotBehindAnHour();
        p04WhichExceptionIsFirst();
        p05CellFrom0To63();
        p05FourStations();
        p05NotBehindAnHour();
        p05WhichExceptionIsFirst();
        p06CellFrom0To63();
        p06RateFrom1To20();
        p06StationFrom0();
        p06EightPumps();
        p06NotBehindAnHour();
        p06WhichExceptionIsFirst();
        p07CellFrom0To63();
        p07DepthFrom1To20();
        p07DelayFrom1To9();
        p07StationFrom0();
        p07EightSensors();
        p07NotBehindAnHour();
        p07WhichExceptionIsFirst();
        p08CellFrom0To63();
        p08PeopleFrom1To99();
        p08DelayFrom0To5();
        p08SixGroups();
        p08NotBehindAnHour();
        p08WhichExceptionIsFirst();
        p09CellFrom0To63();
        p09RoomFrom1To500();
        p09FourShelters();
        p09NotBehindAnHour();
        p09WhichExceptionIsFirst();
        Check.end();
    }

    private static boolean hasNeighbour(int cell, boolean isLower) {
        return isLower ? cell < 56 : cell % 8 != 7;
    }

    private static Stormcellar withDikes(int number) {
        Stormcellar x = new Stormcellar();
        for (int i = 0; i < number; i++) {
            Check.is("4: the number of the dike", x.addDike(16 + i, true, 9, 9), i);
        }
        return x;
    }

    private static Stormcellar withStations(int number) {
        Stormcellar x = new Stormcellar();
        for (int i = 0; i < number; i++) {
            Check.is("5: the number of the station", x.addStation(63), i);
        }
        return x;
    }

    private static Stormcellar withPumps(int number) {
        Stormcellar x = withStations(1);
        for (int i = 0; i < number; i++) {
            Check.is("6: the number of the pump", x.addPump(9, 2, 0), i);
        }
        return x;
    }

    private static Stormcellar withSensors(int number) {
        Stormcellar x = withStations(1);
        for (int i = 0; i < number; i++) {
            Check.is("7: the number of the sensor", x.addSensor(9, 1, 1, 0), i);
        }
        return x;
    }

    private static Stormcellar withGroups(int number) {
        Stormcellar x = new Stormcellar();
        for (int i = 0; i < number; i++) {
            Check.is("8: the number of the group", x.addGroup(9, 5, 1), i);
        }
        return x;
    }

    private static Stormcellar withShelters(int number) {
        Stormcellar x = new Stormcellar();
        for (int i = 0; i < number; i++) {
            Check.is("9: the number of the shelter", x.addShelter(9, 5), i);
        }
        return x;
    }

    /** A crest of 49 at this place holds a level of 49; without it a quarter of 9 flows off. */
    private static void p04EachOf112PlacesIsTaken() {
        int places = 0;
        for (int cell = 0; cell < 64; cell++) {
            for (int lower = 0; lower < 2; lower++) {
                boolean isLower = lower == 1;
                int here = cell;
                if (!hasNeighbour(cell, isLower)) {
                    continue;
                }
                places++;
                Stormcellar x = Coasts.basin(new int[] {cell, cell + (isLower ? 8 : 1)}, new int[] {40, 0});
                x.setHour(0, 0, 9);
                Check.is("4: place " + cell + " " + isLower, x.addDike(cell, isLower, 49, 99), 0);
                Check.noDeed("4: place again " + cell + " " + isLower, () -> x.addDike(here, isLower, 49, 99));
                x.pass(1);
                Check.is("4: it stands there " + cell + " " + isLower, x.water(cell), 9);
                Stormcellar none = Coasts.basin(new int[] {cell, cell + (isLower ? 8 : 1)}, new int[] {40, 0});
                none.setHour(0, 0, 9);
                none.pass(1);
                Check.is("4: without it " + cell + " " + isLower, none.water(cell), 7);
            }
        }
        Check.is("4: places", places, 112);
    }

    private static void p04CellFrom0To63() {
        Edge.range("4: cell, right", Edge.INDEX, 0, 6, Stormcellar::new, (x, cell) -> x.addDike(cell, false, 9, 9));
        Edge.range("4: cell, lower", Edge.INDEX, 0, 55, Stormcellar::new, (x, cell) -> x.addDike(cell, true, 9, 9));
        Edge.refuses("4: cell 64, right", Edge.INDEX, Coasts::whole, x -> x.addDike(64, false, 9, 9));
        Edge.refuses("4: cell 64, lower", Edge.INDEX, Coasts::whole, x -> x.addDike(64, true, 9, 9));
        Edge.refuses("4: cell -1, right of which is 0", Edge.INDEX, Coasts::whole, x -> x.addDike(-1, false, 9, 9));
        Edge.refuses("4: cell -8, below which is 0", Edge.INDEX, Coasts::whole, x -> x.addDike(-8, true, 9, 9));
    }

    private static void p04NoNeighbourBeyondTheEdges() {
        for (int i = 0; i < 8; i++) {
            int right = 8 * i + 7;
            int lower = 56 + i;
            Edge.refuses("4: right of " + right, Edge.INDEX, Coasts::whole, x -> x.addDike(right, false, 9, 9));
            Edge.refuses("4: below " + lower, Edge.INDEX, Coasts::whole, x -> x.addDike(lower, true, 9, 9));
        }
        Check.is("4: below 7", new Stormcellar().addDike(7, true, 9, 9), 0);
        Check.is("4: right of 56", new Stormcellar().addDike(56, false, 9, 9), 0);
        Check.is("4: right of 62", new Stormcellar().addDike(62, false, 9, 9), 0);
        Check.is("4: below 55", new Stormcellar().addDike(55, true, 9, 9), 0);
    }

    private static void p04CrestFrom0To99() {
        Edge.range("4: crest", Edge.ARGUMENT, 0, 99, Coasts::whole, (x, crest) -> x.addDike(40, false, crest, 9));
        for (int crest = 0; crest <= 99; crest++) {
            Stormcellar x = new Stormcellar();
            x.addDike(40, false, crest, 9);
            Check.is("4: its crest, and 1 more", x.raise(0, 1), crest + 1);
        }
    }

    /** The difference of 80 presses it by 1 in each hour. */
    private static void p04StrengthFrom2To99() {
        Edge.range("4: strength", Edge.ARGUMENT, 2, 99, Coasts::whole, (x, strong) -> x.addDike(40, false, 9, strong));
        for (int strength = 2; strength <= 48; strength++) {
            Stormcellar x = Coasts.pit();
            for (int hour = 0; hour < 48; hour++) {
                x.setHour(hour, 80, 0);
            }
            x.addDike(0, false, 80, strength);
            x.pass(strength - 1);
            Check.isChar("4: it stands by a wear of " + (strength - 1), x.dike(0), '-');
            x.pass(1);
            Check.isChar("4: it breaks by a wear of " + strength, x.dike(0), 'p');
        }
        p04GreatestStrength();
    }

    /** 10 flow in each hour over the crest of 40; the pump takes them. */
    private static void p04GreatestStrength() {
        for (int last = 36; last <= 40; last += 4) {
            Stormcellar x = Coasts.pit(80, 80, 80, 80, 80, 80, 80, 80, 80, 40 + last);
            x.addDike(0, false, 40, 99);
            x.addStation(63);
            x.addPump(1, 20, 0);
            x.turn(0, true);
            x.pass(9);
            Check.is("4: wear by 9 times 10", x.wear(0), 90);
            x.pass(1);
            Check.is("4: wear by 9 or 10 more", x.wear(0), 90 + last / 4);
            Check.isChar("4: it breaks by a wear of 99", x.dike(0), 'o');
        }
        Stormcellar y = Coasts.pit(80, 80, 80, 80, 80, 80, 80, 80, 80, 72);
        y.addDike(0, false, 40, 99);
        y.addStation(63);
        y.addPump(1, 20, 0);
        y.turn(0, true);
        y.pass(10);
        Check.is("4: a wear of 98", y.wear(0), 98);
        Check.isChar("4: it stands by a wear of 98", y.dike(0), '-');
    }

    private static void p04OneAtEachPlace() {
        Stormcellar x = new Stormcellar();
        Check.is("4: right of 9", x.addDike(9, false, 9, 9), 0);
        Check.is("4: below 9 is another place", x.addDike(9, true, 9, 9), 1);
        Check.is("4: right of 10 is another place", x.addDike(10, false, 9, 9), 2);
        Check.is("4: right of 8 is another place", x.addDike(8, false, 9, 9), 3);
        Check.is("4: below 1 is another place", x.addDike(1, true, 9, 9), 4);
        Edge.refuses("4: the same place", Edge.UNSUPPORTED, Coasts::whole, y -> y.addDike(8, false, 99, 99));
        Edge.refuses("4: the same place, the same dike", Edge.UNSUPPORTED, Coasts::whole, y -> y.addDike(8, false, 12, 9));
        Edge.refuses("4: the place of a broken one", Edge.UNSUPPORTED, AddTest::wholeWithACut,
                y -> y.addDike(8, false, 99, 99));
    }

    private static Stormcellar wholeWithACut() {
        Stormcellar x = Coasts.whole();
        x.cut(0);
        return x;
    }

    private static void p04SixteenDikes() {
        Check.noCell("4: none yet", () -> new Stormcellar().dike(0));
        Stormcellar x = withDikes(16);
        Check.isChar("4: the sixteenth", x.dike(15), '-');
        Check.noCell("4: no seventeenth", () -> x.dike(16));
        Edge.refuses("4: the seventeenth", Edge.STATE, () -> withDikes(16), y -> y.addDike(40, false, 9, 9));
        Check.is("4: the sixteenth is taken", withDikes(15).addDike(40, false, 9, 9), 15);
    }

    private static void p04NotBehindAnHour() {
        Stormcellar x = Coasts.whole();
        x.cut(0);
        Check.is("4: behind a choice", x.addDike(40, false, 9, 9), 2);
        Edge.refuses("4: in hour 1", Edge.STATE, () -> Coasts.wholeAt(1), y -> y.addDike(40, false, 9, 9));
        Edge.refuses("4: in hour 48", Edge.STATE, () -> Coasts.wholeAt(48), y -> y.addDike(40, true, 9, 9));
    }

    private static void p04WhichExceptionIsFirst() {
        Edge.refuses("4: neighbour and crest", Edge.INDEX, Coasts::whole, x -> x.addDike(63, false, 100, 9));
        Edge.refuses("4: cell and strength", Edge.INDEX, Coasts::whole, x -> x.addDike(64, true, 9, 1));
        Edge.refuses("4: neighbour and sixteen", Edge.INDEX, () -> withDikes(16), x -> x.addDike(56, true, 9, 9));
        Edge.refuses("4: neighbour and hour", Edge.INDEX, () -> Coasts.wholeAt(1), x -> x.addDike(7, false, 9, 9));
        Edge.refuses("4: crest and place", Edge.ARGUMENT, Coasts::whole, x -> x.addDike(8, false, -1, 9));
        Edge.refuses("4: strength and place", Edge.ARGUMENT, Coasts::whole, x -> x.addDike(8, false, 9, 100));
        Edge.refuses("4: crest and sixteen", Edge.ARGUMENT, () -> withDikes(16), x -> x.addDike(40, true, 100, 9));
        Edge.refuses("4: strength and hour", Edge.ARGUMENT, () -> Coasts.wholeAt(1), x -> x.addDike(40, true, 9, 1));
        Edge.refuses("4: place and sixteen", Edge.UNSUPPORTED, () -> withDikes(16), x -> x.addDike(16, true, 9, 9));
        Edge.refuses("4: place and hour", Edge.UNSUPPORTED, () -> Coasts.wholeAt(1), x -> x.addDike(16, false, 9, 9));
        Edge.refuses("4: broken, place and hour", Edge.UNSUPPORTED, () -> Coasts.wholeAt(48),
                x -> x.addDike(8, false, 9, 9));
    }

    private static void p05CellFrom0To63() {
        Edge.range("5: cell", Edge.INDEX, 0, 63, Coasts::whole, (x, cell) -> x.addStation(cell));
        for (int cell = 0; cell < 64; cell++) {
            int away = cell < 32 ? 40 : 10;
            Stormcellar x = Coasts.basin(new int[] {cell, away}, new int[] {0, 0});
            x.setHour(0, 0, 4);
            x.setGround(away, 60, true);
            x.addStation(cell);
            x.addStation(away);
            x.pass(1);
            Check.isFalse("5: on " + cell + " is water", x.hasPower(0));
            Check.isTrue("5: on " + away + " is none", x.hasPower(1));
        }
    }

    private static void p05FourStations() {
        Check.noCell("5: none yet", () -> new Stormcellar().hasPower(0));
        Stormcellar x = withStations(4);
        Check.isTrue("5: the fourth", x.hasPower(3));
        Check.noCell("5: no fifth", () -> x.hasPower(4));
        Check.is("5: the fourth is taken", withStations(3).addStation(0), 3);
        Edge.refuses("5: the fifth", Edge.STATE, () -> withStations(4), y -> y.addStation(0));
    }

    private static void p05NotBehindAnHour() {
        Edge.refuses("5: in hour 1", Edge.STATE, () -> Coasts.wholeAt(1), x -> x.addStation(9));
        Edge.refuses("5: in hour 48", Edge.STATE, () -> Coasts.wholeAt(48), x -> x.addStation(9));
    }

    private static void p05WhichExceptionIsFirst() {
        Edge.refuses("5: cell and four", Edge.INDEX, () -> withStations(4), x -> x.addStation(64));
        Edge.refuses("5: cell and hour", Edge.INDEX, () -> Coasts.wholeAt(1), x -> x.addStation(-1));
    }

    private static void p06CellFrom0To63() {
        Edge.range("6: cell", Edge.INDEX, 0, 63, Coasts::whole, (x, cell) -> x.addPump(cell, 9, 0));
        for (int cell = 0; cell < 64; cell++) {
            Stormcellar x = Coasts.flat(3);
            x.addStation(0);
            x.addPump(cell, 1, 0);
            x.turn(0, true);
            x.pass(1);
            for (int other = 0; other < 64; other++) {
                Check.is("6: from " + cell + ", water on " + other, x.water(other), other == cell ? 2 : 3);
            }
        }
    }

    private static void p06RateFrom1To20() {
        Edge.range("6: rate", Edge.ARGUMENT, 1, 20, Coasts::whole, (x, rate) -> x.addPump(9, rate, 0));
        for (int rate = 1; rate <= 20; rate++) {
            Stormcellar x = Coasts.flat(9, 9, 3);
            x.setGround(63, 0, true);
            x.setHour(0, 9, 9);
            x.setHour(1, 18, 9);
            x.setHour(2, 21, 3);
            x.addStation(63);
            x.addPump(9, rate, 0);
            x.pass(2);
            Check.is("6: it is off", x.water(9), 18);
            x.turn(0, true);
            x.pass(1);
            Check.is("6: by a rate of " + rate, x.water(9), 21 - rate);
        }
    }

    private static void p06StationFrom0() {
        Edge.range("6: station, none yet", Edge.INDEX, 0, -1, Stormcellar::new, (x, station) -> x.addPump(9, 9, station));
        for (int stations = 1; stations <= 4; stations++) {
            int number = stations;
            Edge.range("6: station of " + number, Edge.INDEX, 0, number - 1, () -> withStations(number),
                    (x, station) -> x.addPump(9, 9, station));
        }
    }

    private static void p06EightPumps() {
        Check.noCell("6: none yet", () -> new Stormcellar().turn(0, true));
        Stormcellar x = withPumps(8);
        Check.isFalse("6: the eighth is off", x.turn(7, true));
        Check.noCell("6: no ninth", () -> x.turn(8, true));
        Check.is("6: the eighth is taken", withPumps(7).addPump(0, 1, 0), 7);
        Edge.refuses("6: the ninth", Edge.STATE, () -> withPumps(8), y -> y.addPump(0, 1, 0));
    }

    private static void p06NotBehindAnHour() {
        Edge.refuses("6: in hour 1", Edge.STATE, () -> Coasts.wholeAt(1), x -> x.addPump(9, 1, 0));
        Edge.refuses("6: in hour 48", Edge.STATE, () -> Coasts.wholeAt(48), x -> x.addPump(9, 1, 0));
    }

    private static void p06WhichExceptionIsFirst() {
        Edge.refuses("6: cell and rate", Edge.INDEX, Coasts::whole, x -> x.addPump(64, 0, 0));
        Edge.refuses("6: station and rate", Edge.INDEX, Coasts::whole, x -> x.addPump(9, 21, 1));
        Edge.refuses("6: cell and eight", Edge.INDEX, () -> withPumps(8), x -> x.addPump(-1, 1, 0));
        Edge.refuses("6: station and eight", Edge.INDEX, () -> withPumps(8), x -> x.addPump(9, 1, 1));
        Edge.refuses("6: cell and hour", Edge.INDEX, () -> Coasts.wholeAt(1), x -> x.addPump(64, 1, 0));
        Edge.refuses("6: station and hour", Edge.INDEX, () -> Coasts.wholeAt(1), x -> x.addPump(9, 1, -1));
        Edge.refuses("6: rate and eight", Edge.ARGUMENT, () -> withPumps(8), x -> x.addPump(9, 0, 0));
        Edge.refuses("6: rate and hour", Edge.ARGUMENT, () -> Coasts.wholeAt(1), x -> x.addPump(9, 21, 0));
    }

    private static void p07CellFrom0To63() {
        Edge.range("7: cell", Edge.INDEX, 0, 63, Coasts::whole, (x, cell) -> x.addSensor(cell, 1, 1, 0));
        for (int cell = 0; cell < 64; cell++) {
            int away = cell < 32 ? 40 : 10;
            Stormcellar x = Coasts.basin(new int[] {cell}, new int[] {0});
            x.setHour(0, 0, 1);
            x.addStation(away);
            x.addSensor(cell, 1, 1, 0);
            x.addSensor(away, 1, 1, 0);
            x.pass(1);
            Check.is("7: on " + cell + " is water", x.newsAt(0), 1);
            Check.noElement("7: on " + away + " is none", () -> x.newsAt(1));
        }
    }

    private static void p07DepthFrom1To20() {
        Edge.range("7: depth", Edge.ARGUMENT, 1, 20, Coasts::whole, (x, depth) -> x.addSensor(9, depth, 1, 0));
        for (int depth = 1; depth <= 20; depth++) {
            Stormcellar x = Coasts.basin(new int[] {9}, new int[] {0});
            for (int hour = 0; hour < 20; hour++) {
                x.setHour(hour, 0, 1);
            }
            x.addStation(63);
            x.addSensor(9, depth, 1, 0);
            if (depth > 1) {
                x.pass(depth - 1);
            }
            Check.noElement("7: below a depth of " + depth, () -> x.newsAt(0));
            x.pass(1);
            Check.is("7: at a depth of " + depth, x.newsAt(0), depth);
        }
    }

    private static void p07DelayFrom1To9() {
        Edge.range("7: delay", Edge.ARGUMENT, 1, 9, Coasts::whole, (x, delay) -> x.addSensor(9, 1, delay, 0));
        for (int delay = 1; delay <= 9; delay++) {
            Stormcellar x = Coasts.flat(1);
            x.addStation(63);
            x.addSensor(9, 1, delay, 0);
            x.pass(1);
            Check.is("7: by a delay of " + delay, x.newsAt(0), delay);
        }
    }

    private static void p07StationFrom0() {
        Edge.range("7: station, none yet", Edge.INDEX, 0, -1, Stormcellar::new,
                (x, station) -> x.addSensor(9, 1, 1, station));
        for (int stations = 1; stations <= 4; stations++) {
            int number = stations;
            Edge.range("7: station of " + number, Edge.INDEX, 0, number - 1, () -> withStations(number),
                    (x, station) -> x.addSensor(9, 1, 1, station));
        }
    }

    private static void p07EightSensors() {
        Check.noCell("7: none yet", () -> new Stormcellar().newsAt(0));
        Stormcellar x = withSensors(8);
        Check.noElement("7: the eighth has noticed nothing", () -> x.newsAt(7));
        Check.noCell("7: no ninth", () -> x.newsAt(8));
        Check.is("7: the eighth is taken", withSensors(7).addSensor(0, 1, 1, 0), 7);
        Edge.refuses("7: the ninth", Edge.STATE, () -> withSensors(8), y -> y.addSensor(0, 1, 1, 0));
    }

    private static void p07NotBehindAnHour() {
        Edge.refuses("7: in hour 1", Edge.STATE, () -> Coasts.wholeAt(1), x -> x.addSensor(9, 1, 1, 0));
        Edge.refuses("7: in hour 48", Edge.STATE, () -> Coasts.wholeAt(48), x -> x.addSensor(9, 1, 1, 0));
    }

    private static void p07WhichExceptionIsFirst() {
        Edge.refuses("7: cell and depth", Edge.INDEX, Coasts::whole, x -> x.addSensor(64, 0, 1, 0));
        Edge.refuses("7: cell and delay", Edge.INDEX, Coasts::whole, x -> x.addSensor(-1, 1, 0, 0));
        Edge.refuses("7: station and depth", Edge.INDEX, Coasts::whole, x -> x.addSensor(9, 21, 1, -1));
        Edge.refuses("7: station and delay", Edge.INDEX, Coasts::whole, x -> x.addSensor(9, 1, 10, 1));
        Edge.refuses("7: cell and eight", Edge.INDEX, () -> withSensors(8), x -> x.addSensor(-1, 1, 1, 0));
        Edge.refuses("7: station and eight", Edge.INDEX, () -> withSensors(8), x -> x.addSensor(9, 1, 1, 1));
        Edge.refuses("7: cell and hour", Edge.INDEX, () -> Coasts.wholeAt(1), x -> x.addSensor(64, 1, 1, 0));
        Edge.refuses("7: station and hour", Edge.INDEX, () -> Coasts.wholeAt(1), x -> x.addSensor(9, 1, 1, -1));
        Edge.refuses("7: depth and eight", Edge.ARGUMENT, () -> withSensors(8), x -> x.addSensor(9, 21, 1, 0));
        Edge.refuses("7: delay and eight", Edge.ARGUMENT, () -> withSensors(8), x -> x.addSensor(9, 1, 0, 0));
        Edge.refuses("7: depth and hour", Edge.ARGUMENT, () -> Coasts.wholeAt(1), x -> x.addSensor(9, 0, 1, 0));
        Edge.refuses("7: delay and hour", Edge.ARGUMENT, () -> Coasts.wholeAt(1), x -> x.addSensor(9, 1, 10, 0));
    }

    private static void p08CellFrom0To63() {
        Edge.range("8: cell", Edge.INDEX, 0, 63, Coasts::whole, (x, cell) -> x.addGroup(cell, 9, 1));
        for (int cell = 0; cell < 64; cell++) {
            Stormcellar x = new Stormcellar();
            x.addGroup(cell, 9, 1);
            Check.is("8: its cell", x.cellOf(0), cell);
        }
    }

    private static void p08PeopleFrom1To99() {
        Edge.range("8: people", Edge.ARGUMENT, 1, 99, Coasts::whole, (x, people) -> x.addGroup(9, people, 1));
        for (int people = 1; people <= 99; people++) {
            Stormcellar x = new Stormcellar();
            x.addGroup(9, people, 1);
            Check.is("8: its people", x.people(0), people);
        }
    }

    private static void p08DelayFrom0To5() {
        Edge.range("8: delay", Edge.ARGUMENT, 0, 5, Coasts::whole, (x, delay) -> x.addGroup(9, 9, delay));
        for (int delay = 0; delay <= 5; delay++) {
            Stormcellar x = Coasts.flat(1);
            Coasts.addNews(x);
            x.addGroup(9, 9, delay);
            x.pass(1);
            Check.is("8: by its delay of " + delay, x.warn(0), 1 + delay);
        }
    }

    private static void p08SixGroups() {
        Check.noCell("8: none yet", () -> new Stormcellar().people(0));
        Stormcellar x = withGroups(6);
        Check.isChar("8: the sixth is at home", x.state(5), 'h');
        Check.noCell("8: no seventh", () -> x.state(6));
        Check.is("8: the sixth is taken", withGroups(5).addGroup(0, 1, 0), 5);
        Edge.refuses("8: the seventh", Edge.STATE, () -> withGroups(6), y -> y.addGroup(0, 1, 0));
    }

    private static void p08NotBehindAnHour() {
        Edge.refuses("8: in hour 1", Edge.STATE, () -> Coasts.wholeAt(1), x -> x.addGroup(9, 1, 0));
        Edge.refuses("8: in hour 48", Edge.STATE, () -> Coasts.wholeAt(48), x -> x.addGroup(9, 1, 0));
    }

    private static void p08WhichExceptionIsFirst() {
        Edge.refuses("8: cell and people", Edge.INDEX, Coasts::whole, x -> x.addGroup(64, 0, 0));
        Edge.refuses("8: cell and delay", Edge.INDEX, Coasts::whole, x -> x.addGroup(-1, 9, 6));
        Edge.refuses("8: cell and six", Edge.INDEX, () -> withGroups(6), x -> x.addGroup(64, 9, 0));
        Edge.refuses("8: cell and hour", Edge.INDEX, () -> Coasts.wholeAt(1), x -> x.addGroup(64, 9, 0));
        Edge.refuses("8: people and six", Edge.ARGUMENT, () -> withGroups(6), x -> x.addGroup(9, 100, 0));
        Edge.refuses("8: delay and six", Edge.ARGUMENT, () -> withGroups(6), x -> x.addGroup(9, 9, -1));
        Edge.refuses("8: people and hour", Edge.ARGUMENT, () -> Coasts.wholeAt(1), x -> x.addGroup(9, 0, 0));
        Edge.refuses("8: delay and hour", Edge.ARGUMENT, () -> Coasts.wholeAt(1), x -> x.addGroup(9, 9, 6));
    }

    private static void p09CellFrom0To63() {
        Edge.range("9: cell", Edge.INDEX, 0, 63, Coasts::whole, (x, cell) -> x.addShelter(cell, 9));
        for (int cell = 0; cell < 64; cell++) {
            Stormcellar x = Coasts.flat(1);
            Coasts.addNews(x);
            x.addShelter(cell, 9);
            x.addGroup(cell, 9, 0);
            x.addGroup(63 - cell, 9, 0);
            x.open(0, true);
            x.pass(1);
            x.warn(1);
            x.warn(0);
            x.pass(1);
            Check.isChar("9: it is on " + cell, x.state(0), 's');
            Check.isChar("9: it is not on another cell than " + cell, x.state(1), 'o');
        }
    }

    private static void p09RoomFrom1To500() {
        Edge.range("9: room", Edge.ARGUMENT, 1, 500, Coasts::whole, (x, room) -> x.addShelter(9, room));
        p09LittleRoom();
        p09GreatRoom();
    }

    private static void p09LittleRoom() {
        for (int room = 1; room <= 99; room++) {
            Stormcellar x = Coasts.flat(1);
            Coasts.addNews(x);
            x.addShelter(9, room);
            x.addGroup(9, room < 99 ? room + 1 : room, 0);
            x.addGroup(9, room, 0);
            x.open(0, true);
            x.pass(1);
            x.warn(0);
            x.warn(1);
            x.pass(1);
            Check.isChar("9: " + (room + 1) + " into " + room, x.state(0), room < 99 ? 'o' : 's');
            Check.isChar("9: " + room + " into " + room, x.state(1), room < 99 ? 's' : 'o');
        }
    }

    /** Five groups have 99 people, so 5 are left of 500: the sixth group of 5 has room, one of 6 has none. */
    private static void p09GreatRoom() {
        for (int last = 5; last <= 6; last++) {
            Stormcellar x = Coasts.flat(1);
            Coasts.addNews(x);
            x.addShelter(9, 500);
            for (int i = 0; i < 6; i++) {
                x.addGroup(9, i < 5 ? 99 : last, 0);
            }
            x.open(0, true);
            x.pass(1);
            for (int i = 0; i < 6; i++) {
                x.warn(i);
            }
            x.pass(1);
            Check.is("9: of 500", x.inShelter(0), last == 5 ? 500 : 495);
            Check.isChar("9: the last one", x.state(5), last == 5 ? 's' : 'o');
        }
    }

    private static void p09FourShelters() {
        Check.noCell("9: none yet", () -> new Stormcellar().inShelter(0));
        Stormcellar x = withShelters(4);
        Check.is("9: nobody is in the fourth", x.inShelter(3), 0);
        Check.isFalse("9: the fourth is closed", x.open(3, true));
        Check.noCell("9: no fifth", () -> x.inShelter(4));
        Check.is("9: the fourth is taken", withShelters(3).addShelter(0, 1), 3);
        Edge.refuses("9: the fifth", Edge.STATE, () -> withShelters(4), y -> y.addShelter(0, 1));
    }

    private static void p09NotBehindAnHour() {
        Edge.refuses("9: in hour 1", Edge.STATE, () -> Coasts.wholeAt(1), x -> x.addShelter(9, 1));
        Edge.refuses("9: in hour 48", Edge.STATE, () -> Coasts.wholeAt(48), x -> x.addShelter(9, 1));
    }

    private static void p09WhichExceptionIsFirst() {
        Edge.refuses("9: cell and room", Edge.INDEX, Coasts::whole, x -> x.addShelter(64, 0));
        Edge.refuses("9: cell and four", Edge.INDEX, () -> withShelters(4), x -> x.addShelter(64, 1));
        Edge.refuses("9: cell and hour", Edge.INDEX, () -> Coasts.wholeAt(1), x -> x.addShelter(-1, 1));
        Edge.refuses("9: room and four", Edge.ARGUMENT, () -> withShelters(4), x -> x.addShelter(9, 501));
        Edge.refuses("9: room and hour", Edge.ARGUMENT, () -> Coasts.wholeAt(1), x -> x.addShelter(9, 0));
    }
}
