/** Promises 25 to 30: which numbers are taken, how groups are, and why they were lost; a test for each edge. */
public final class PeopleEdgeTest {
    public static void main(String[] args) {
        p25GroupFrom0();
        p26GroupFrom0();
        p26FromAllToNobody();
        p27GroupFrom0();
        p27TheFirstOneThatApplies();
        p28ShelterFrom0();
        p28FromNobodyToItsRoom();
        p29From0To594();
        p30GroupFrom0();
        p30NotIfNobodyWasLost();
        p30NewsInTheHourOfTheLoss();
        p30NoWarningOrOneOnItsWay();
        p30ReachedInTheHourAhead();
        p30RoomForAllItsPeople();
        p30RoomAheadOfTheLoss();
        p30WaysAcross2Water();
        p30OnTheCellOfAShelter();
        p30GroupsThatWentAreLeftAside();
        p30WhyTheyWereLostFirst();
        Check.end();
    }

    private static Stormcellar withGroups(int number) {
        Stormcellar x = new Stormcellar();
        for (int i = 0; i < number; i++) {
            x.addGroup(40 + i, 10 + i, 0);
        }
        return x;
    }

    private static void p25GroupFrom0() {
        Edge.range("25: group, none yet", Edge.INDEX, 0, -1, Stormcellar::new, (x, group) -> x.cellOf(group));
        Edge.range("25: group of 2", Edge.INDEX, 0, 1, () -> Coasts.wholeAt(9), (x, group) -> x.cellOf(group));
        Edge.range("25: group of 6", Edge.INDEX, 0, 5, () -> withGroups(6), (x, group) -> x.cellOf(group));
        for (int i = 0; i < 6; i++) {
            Check.is("25: each one", withGroups(6).cellOf(i), 40 + i);
        }
    }

    private static void p26GroupFrom0() {
        Edge.range("26: group, none yet", Edge.INDEX, 0, -1, Stormcellar::new, (x, group) -> x.people(group));
        Edge.range("26: group of 2", Edge.INDEX, 0, 1, () -> Coasts.wholeAt(9), (x, group) -> x.people(group));
        Edge.range("26: group of 6", Edge.INDEX, 0, 5, () -> withGroups(6), (x, group) -> x.people(group));
        for (int i = 0; i < 6; i++) {
            Check.is("26: each one", withGroups(6).people(i), 10 + i);
        }
    }

    private static void p26FromAllToNobody() {
        Stormcellar x = Coasts.deep(40);
        x.addGroup(9, 99, 0);
        x.addGroup(40, 99, 0);
        Check.is("26: all", x.people(0), 99);
        x.pass(1);
        Check.is("26: nobody", x.people(0), 0);
        Check.is("26: all of the dry ones", x.people(1), 99);
        x.pass(47);
        Check.is("26: nobody still", x.people(0), 0);
        Check.is("29: nobody is lost twice", x.harm(), 99);
    }

    private static void p27GroupFrom0() {
        Edge.range("27: group, none yet", Edge.INDEX, 0, -1, Stormcellar::new, (x, group) -> x.state(group));
        Edge.range("27: group of 2", Edge.INDEX, 0, 1, () -> Coasts.wholeAt(9), (x, group) -> x.state(group));
        Edge.range("27: group of 6", Edge.INDEX, 0, 5, () -> withGroups(6), (x, group) -> x.state(group));
    }

    /** Groups of one person, which is lost in hour 2: at home, with a warning on its way, on its way, and safe. */
    private static void p27TheFirstOneThatApplies() {
        Stormcellar x = inThePitAt(2, 1);
        for (int delay = 0; delay < 5; delay++) {
            x.addGroup(1, 1, delay);
        }
        x.addShelter(1, 1);
        x.pass(1);
        x.open(0, true);
        x.warn(0);
        x.pass(1);
        x.open(0, false);
        x.warn(4);
        Check.isChar("27: s", x.state(0), 's');
        Check.isChar("27: h", x.state(1), 'h');
        Check.isChar("27: a", x.state(4), 'a');
        Stormcellar way = inThePitAt(2, 1);
        way.addGroup(1, 1, 0);
        way.pass(1);
        way.warn(0);
        way.pass(1);
        Check.isChar("27: o", way.state(0), 'o');
        way.pass(1);
        Check.isChar("27: l ahead of o", way.state(0), 'l');
        x.pass(1);
        Check.isChar("27: s with no water counting", x.state(0), 's');
        Check.isChar("27: l ahead of h", x.state(1), 'l');
        Check.isChar("27: l ahead of a", x.state(4), 'l');
        x.pass(10);
        Check.isChar("27: l in the hour of the warning too", x.state(4), 'l');
    }

    private static void p28ShelterFrom0() {
        Edge.range("28: shelter, none yet", Edge.INDEX, 0, -1, Stormcellar::new, (x, number) -> x.inShelter(number));
        Edge.range("28: shelter of 2", Edge.INDEX, 0, 1, () -> Coasts.wholeAt(9), (x, number) -> x.inShelter(number));
        Edge.range("28: shelter of 4", Edge.INDEX, 0, 3, PeopleEdgeTest::withFourShelters,
                (x, number) -> x.inShelter(number));
    }

    private static Stormcellar withFourShelters() {
        Stormcellar x = Coasts.flat(1);
        Coasts.addNews(x);
        for (int i = 0; i < 4; i++) {
            x.addShelter(20 + i, 10 + i);
            x.addGroup(20 + i, 10 + i, 0);
            x.open(i, true);
        }
        x.pass(1);
        for (int i = 0; i < 4; i++) {
            x.warn(i);
        }
        x.pass(1);
        return x;
    }

    private static void p28FromNobodyToItsRoom() {
        Stormcellar x = withFourShelters();
        for (int i = 0; i < 4; i++) {
            Check.is("28: full", x.inShelter(i), 10 + i);
        }
        Check.isTrue("39: full", x.isConsistent());
        Stormcellar y = Coasts.whole();
        Check.is("28: nobody", y.inShelter(0), 0);
        y.open(0, true);
        y.pass(48);
        Check.is("28: nobody was warned", y.inShelter(0), 0);
    }

    private static void p29From0To594() {
        for (int groups = 0; groups <= 6; groups++) {
            Stormcellar x = Coasts.deep(40);
            for (int i = 0; i < groups; i++) {
                x.addGroup(9, 99, 0);
            }
            Check.is("29: none ahead of the storm", x.harm(), 0);
            x.pass(1);
            Check.is("29: all of so many groups", x.harm(), 99 * groups);
        }
        Stormcellar whole = Coasts.wholeAt(48);
        Check.is("29: as many as are not left", whole.harm(), 70 - whole.people(0) - whole.people(1));
    }

    private static void p30GroupFrom0() {
        Edge.range("30: group, none yet", Edge.INDEX, 0, -1, Stormcellar::new, (x, group) -> x.reason(group));
        Edge.range("30: group of 6", Edge.INDEX, 0, 5, PeopleEdgeTest::withSixLosses, (x, group) -> x.reason(group));
        Edge.refuses("30: no such group, though nobody was lost", Edge.INDEX, Coasts::whole, x -> x.reason(2));
    }

    private static Stormcellar withSixLosses() {
        Stormcellar x = Coasts.deep(20);
        for (int i = 0; i < 6; i++) {
            x.addGroup(9, 20, 0);
        }
        x.pass(1);
        return x;
    }

    private static Stormcellar withOneSafeInTheFlood() {
        Stormcellar x = inThePitAt(2, 1);
        x.addGroup(1, 9, 0);
        x.addShelter(1, 9);
        x.open(0, true);
        x.pass(1);
        x.warn(0);
        x.pass(2);
        Check.is("17: the flood", x.water(1), 10);
        return x;
    }

    private static void p30NotIfNobodyWasLost() {
        Edge.refuses("30: ahead of the storm", Edge.ELEMENT, Coasts::whole, x -> x.reason(0));
        Edge.refuses("30: of the safe", Edge.ELEMENT, PeopleEdgeTest::withOneSafeInTheFlood, x -> x.reason(0));
        for (int water = 9; water <= 10; water++) {
            Stormcellar x = Coasts.deep(water);
            x.addGroup(9, 9, 0);
            x.pass(1);
            if (water == 9) {
                Check.noElement("30: with 9 water", () -> x.reason(0));
            } else {
                Check.isChar("30: with 10 water", x.reason(0), 'k');
            }
        }
    }

    /** The pit has 1 water from hour 0 on and 10 from this hour on; the news comes with this delay. */
    private static Stormcellar inThePitAt(int hour, int newsDelay) {
        Stormcellar x = Coasts.pit();
        x.setHour(0, 0, 1);
        x.setHour(hour, 40, hour == 0 ? 1 : 0);
        x.addStation(63);
        x.addSensor(63, 1, newsDelay, 0);
        return x;
    }

    private static void p30NewsInTheHourOfTheLoss() {
        for (int delay = 1; delay <= 9; delay++) {
            for (int hour = 0; hour <= 11; hour++) {
                Stormcellar x = inThePitAt(hour, delay);
                x.addGroup(1, 99, 0);
                x.pass(hour + 1);
                Check.is("26: 6 of 99", x.people(0), 93);
                Check.isChar("30: news in " + delay + ", lost in " + hour, x.reason(0), hour < delay ? 'k' : 'w');
            }
        }
    }

    /** The loss is in hour 6, a warning is made in this hour. */
    private static char reasonWarnedAt(int hour, int delay) {
        Stormcellar x = inThePitAt(6, 1);
        x.addGroup(1, 99, delay);
        x.pass(hour);
        x.warn(0);
        x.pass(7 - hour);
        return x.reason(0);
    }

    private static void p30NoWarningOrOneOnItsWay() {
        Check.isChar("30: it comes in hour 6, for 0", reasonWarnedAt(6, 0), 'a');
        Check.isChar("30: it comes in hour 6, for 1", reasonWarnedAt(5, 1), 'a');
        Check.isChar("30: it comes in hour 6, for 5", reasonWarnedAt(1, 5), 'a');
        Check.isChar("30: it comes in hour 7", reasonWarnedAt(6, 1), 'a');
        Check.isChar("30: it comes in hour 11", reasonWarnedAt(6, 5), 'a');
        Stormcellar wet = inThePitAt(6, 1);
        wet.setHour(5, 24, 0);
        wet.addGroup(1, 99, 0);
        wet.pass(5);
        wet.warn(0);
        wet.pass(1);
        Check.is("17: 1 and a quarter of 23", wet.water(1), 6);
        wet.pass(1);
        Check.isChar("30: it did not reach it", wet.reason(0), 'w');
    }

    private static void p30ReachedInTheHourAhead() {
        Check.isChar("30: it came in hour 5, for 0", reasonWarnedAt(5, 0), 's');
        Check.isChar("30: it came in hour 5, for 4", reasonWarnedAt(1, 4), 's');
        Check.isChar("30: it came in hour 1", reasonWarnedAt(1, 0), 's');
    }

    /** A group of 32 in the pit that is on its way since hour 1, with an open shelter there; lost in hour 2. */
    private static Stormcellar onItsWay(int shelterCell, int room) {
        Stormcellar x = inThePitAt(2, 1);
        x.addGroup(1, 32, 0);
        x.addShelter(shelterCell, room);
        x.pass(1);
        x.warn(0);
        x.pass(1);
        Check.isChar("27: on its way", x.state(0), 'o');
        x.open(0, true);
        return x;
    }

    private static char reasonBehind(Stormcellar x) {
        x.pass(1);
        return x.reason(0);
    }

    private static void p30RoomForAllItsPeople() {
        Check.isChar("30: room for 31", reasonBehind(onItsWay(3, 31)), 's');
        Check.isChar("30: room for 32", reasonBehind(onItsWay(3, 32)), 'd');
        Check.isChar("30: room for 31, without a way", reasonBehind(onItsWay(0, 31)), 's');
        Check.isChar("30: room for 32, without a way", reasonBehind(onItsWay(0, 32)), 'r');
        Check.isChar("30: room for 31, on its cell", reasonBehind(onItsWay(1, 31)), 's');
        Check.isChar("30: room for 32, on its cell", reasonBehind(onItsWay(1, 32)), 'd');
        Stormcellar closed = onItsWay(3, 500);
        closed.open(0, false);
        Check.isChar("30: closed again", reasonBehind(closed), 's');
    }

    /** The other group, on the shelter's cell with 10 people, is safe in hour 2: ahead of the loss, or behind it. */
    private static void p30RoomAheadOfTheLoss() {
        for (int lost = 0; lost < 2; lost++) {
            Stormcellar x = inThePitAt(2, 1);
            x.addGroup(lost == 0 ? 1 : 3, lost == 0 ? 32 : 10, 0);
            x.addGroup(lost == 0 ? 3 : 1, lost == 0 ? 10 : 32, 0);
            x.addShelter(3, 41);
            x.pass(1);
            x.warn(0);
            x.warn(1);
            x.pass(1);
            x.open(0, true);
            x.pass(1);
            Check.isChar("27: the other one is safe", x.state(1 - lost), 's');
            Check.isChar("30: 9 or 41 rooms are left", x.reason(lost), lost == 0 ? 'd' : 's');
        }
    }

    /** The way is the rock at 2, with 1 water of hour 0, and more in hour 2. */
    private static void p30WaysAcross2Water() {
        for (int rain = 0; rain <= 2; rain++) {
            Stormcellar x = inThePitAt(2, 1);
            x.setHour(2, 40, rain);
            x.addGroup(1, 32, 0);
            x.addShelter(2, 32);
            x.pass(1);
            x.warn(0);
            x.pass(1);
            x.open(0, true);
            x.pass(1);
            Check.is("17: on the way", x.water(2), 1 + rain);
            Check.isChar("30: with " + (1 + rain) + " water on the way", x.reason(0), rain < 2 ? 'd' : 'r');
        }
    }

    private static void p30OnTheCellOfAShelter() {
        Stormcellar closed = onItsWay(1, 32);
        closed.open(0, false);
        Check.isChar("30: on the cell of a closed one alone", reasonBehind(closed), 's');
        for (int kind = 0; kind < 3; kind++) {
            Stormcellar x = inThePitAt(2, 1);
            x.addGroup(1, 32, 0);
            x.addShelter(1, kind == 1 ? 31 : 32);
            x.addShelter(0, 32);
            x.pass(1);
            x.warn(0);
            x.pass(1);
            x.open(0, kind > 0);
            x.open(1, true);
            x.pass(1);
            Check.isChar("30: closed, without room, with room", x.reason(0), kind < 2 ? 'r' : 'd');
        }
    }

    /** The only way is over 2, onto which four groups have gone. */
    private static void p30GroupsThatWentAreLeftAside() {
        Stormcellar x = Coasts.basin(new int[] {1, 2, 3}, new int[] {0, 30, 30});
        x.setGround(0, 0, true);
        x.setHour(0, 0, 1);
        x.setHour(2, 40, 0);
        x.addStation(63);
        x.addSensor(3, 1, 1, 0);
        for (int i = 0; i < 6; i++) {
            x.addGroup(1, 32, 0);
        }
        x.addShelter(3, 500);
        x.pass(1);
        for (int i = 0; i < 6; i++) {
            x.warn(i);
        }
        x.pass(1);
        x.open(0, true);
        x.pass(1);
        for (int i = 0; i < 6; i++) {
            Check.is("26: 2 of 32", x.people(i), 30);
            Check.is("25: four went", x.cellOf(i), i < 4 ? 2 : 1);
            Check.isChar("30: with a way, those who went left aside", x.reason(i), 'd');
        }
    }

    private static void p30WhyTheyWereLostFirst() {
        Stormcellar x = inThePitAt(0, 2);
        x.setHour(1, 40, 0);
        x.setHour(2, 40, 0);
        x.setHour(3, 40, 0);
        x.addGroup(1, 99, 0);
        x.pass(1);
        Check.isChar("30: in the hour 0", x.reason(0), 'k');
        x.pass(1);
        x.warn(0);
        x.pass(2);
        Check.isTrue("26: more were lost", x.people(0) < 93);
        Check.isChar("30: why they were lost first", x.reason(0), 'k');
        x.pass(44);
        Check.isChar("30: to the end", x.reason(0), 'k');
    }
}
