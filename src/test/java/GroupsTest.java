/** The terms: warnings, and how groups are lost and go to shelters; a test for each sentence with an edge. */
public final class GroupsTest {
    public static void main(String[] args) {
        warningsReachInTheirHour();
        warningsReachUpTo4Water();
        warningsAreLostBehindALoss();
        lossesFrom10Water();
        lossesBySixteenths();
        lossesOnTheWay();
        lossesByTheWaterBehindThePumps();
        atHomeNobodyGoes();
        onItsWayInTheHourOfTheWarning();
        safeOnAWetCell();
        safeInTheNextHourAtTheEarliest();
        safeIntoTheLowestNumber();
        safeOnesStaySafe();
        roomForAllItsPeople();
        roomAsItIsNow();
        waysOverLandAlone();
        waysWithAtMost2Water();
        waysFromAWetCell();
        waysNotOverItsOwnCell();
        waysOntoACellForFour();
        waysOntoACellInEachHourAnew();
        waysOntoACellNotOfTheSafe();
        waysShortestOfAll();
        waysShortestOfThoseThatAreLeft();
        waysToTheLowestShelter();
        waysByTheLowestNeighbour();
        waysDoNotWrap();
        waysThatAreNone();
        Check.end();
    }

    /** Adds groups of 9 for these cells, and shelters for 99, all open, and warns all in hour 1. */
    private static Stormcellar warnAll(Stormcellar x, int[] cells, int... shelterCells) {
        for (int cell : cells) {
            x.addGroup(cell, 9, 0);
        }
        for (int i = 0; i < shelterCells.length; i++) {
            x.addShelter(shelterCells[i], 99);
            x.open(i, true);
        }
        x.pass(1);
        for (int i = 0; i < cells.length; i++) {
            x.warn(i);
        }
        return x;
    }

    private static Stormcellar flatWithNews(int... rains) {
        Stormcellar x = Coasts.flat(rains);
        Coasts.addNews(x);
        return x;
    }

    private static int[] manyAt(int cell, int number) {
        int[] cells = new int[number];
        java.util.Arrays.fill(cells, cell);
        return cells;
    }

    private static void warningsReachInTheirHour() {
        for (int delay = 0; delay <= 5; delay++) {
            Stormcellar x = flatWithNews(1);
            x.addGroup(9, 9, delay);
            x.pass(1);
            x.warn(0);
            for (int hour = 1; hour <= delay + 1; hour++) {
                Check.isChar("warnings: not yet, for " + delay, x.state(0), 'a');
                x.pass(1);
            }
            Check.isChar("warnings: as many hours later as " + delay, x.state(0), 'o');
        }
    }

    /** The water comes in the very hour of the warning, and in the hour ahead of it. */
    private static void warningsReachUpTo4Water() {
        for (int water = 1; water <= 9; water++) {
            for (int ahead = 0; ahead < 2; ahead++) {
                Stormcellar x = flatWithNews(1);
                x.setHour(4 - ahead, 0, water - 1);
                x.addGroup(9, 9, 3);
                x.pass(1);
                x.warn(0);
                x.pass(3);
                Check.isChar("warnings: on its way to it with " + water, x.state(0), 'a');
                x.pass(1);
                Check.isChar("warnings: with " + water + " water", x.state(0), water <= 4 ? 'o' : 'h');
            }
        }
        Stormcellar pumped = flatWithNews(1, 4);
        pumped.addPump(9, 1, 0);
        pumped.turn(0, true);
        warnAll(pumped, new int[] {9, 10});
        pumped.pass(1);
        Check.isChar("warnings: 4 behind the pump", pumped.state(0), 'o');
        Check.isChar("warnings: 5 without a pump", pumped.state(1), 'h');
    }

    private static void warningsAreLostBehindALoss() {
        Stormcellar x = warnAll(flatWithNews(1, 9), new int[] {9});
        x.pass(1);
        Check.is("groups: one is lost at 10", x.people(0), 8);
        Check.isChar("warnings: then it does not reach it", x.state(0), 'h');
        Check.is("14: it can be warned again", x.warn(0), 2);
    }

    private static void lossesFrom10Water() {
        for (int water = 0; water <= 59; water++) {
            Stormcellar x = Coasts.deep(water);
            x.addGroup(9, 9, 0);
            x.pass(1);
            Check.is("17: so much water", x.water(9), water);
            Check.is("groups: with " + water + " water", x.harm() > 0 ? 1 : 0, water >= 10 ? 1 : 0);
        }
    }

    private static void lossesBySixteenths() {
        int[] people = {1, 2, 15, 16, 17, 31, 32, 33, 47, 48, 98, 99};
        for (int water = 10; water <= 59; water++) {
            for (int part = 0; part < 12; part += 6) {
                Stormcellar x = Coasts.deep(water);
                for (int i = 0; i < 6; i++) {
                    x.addGroup(9, people[part + i], 0);
                }
                x.pass(1);
                int sum = 0;
                for (int i = 0; i < 6; i++) {
                    int all = people[part + i];
                    int sixteenths = all * (water - 9) / 16;
                    int due = sixteenths < 1 ? 1 : sixteenths > all ? all : sixteenths;
                    sum += due;
                    Check.is("groups: of " + all + " with " + water, all - x.people(i), due);
                    Check.isChar("groups: the rest of " + all + " with " + water, x.state(i), due == all ? 'l' : 'h');
                }
                Check.is("29: their sum", x.harm(), sum);
            }
        }
    }

    private static void lossesOnTheWay() {
        Stormcellar x = Coasts.pit(0, 0, 40);
        x.setHour(0, 0, 1);
        Coasts.addNews(x);
        warnAll(x, new int[] {1});
        x.pass(1);
        Check.isChar("27: on its way, without a shelter", x.state(0), 'o');
        x.pass(1);
        Check.is("groups: one is lost on the way", x.people(0), 8);
        Check.isChar("27: still on its way", x.state(0), 'o');
    }

    private static void lossesByTheWaterBehindThePumps() {
        Stormcellar x = Coasts.pit(40);
        x.addStation(63);
        x.addPump(1, 1, 0);
        x.turn(0, true);
        x.addGroup(1, 9, 0);
        x.pass(1);
        Check.is("17: 9 behind the pump", x.water(1), 9);
        Check.is("groups: nobody is lost", x.harm(), 0);
    }

    private static void atHomeNobodyGoes() {
        Stormcellar x = flatWithNews(1);
        x.addGroup(9, 9, 5);
        x.addGroup(10, 9, 0);
        x.addShelter(10, 99);
        x.open(0, true);
        x.pass(1);
        x.warn(0);
        x.pass(5);
        Check.is("groups: it waits for its warning", x.cellOf(0), 9);
        Check.isChar("groups: nobody goes into a shelter without one", x.state(1), 'h');
        Check.is("28: nobody", x.inShelter(0), 0);
        x.pass(1);
        Check.is("groups: it goes with its warning", x.cellOf(0), 10);
        x.pass(41);
        Check.isChar("groups: at home to the end", x.state(1), 'h');
    }

    private static void onItsWayInTheHourOfTheWarning() {
        Stormcellar x = warnAll(flatWithNews(1), new int[] {9, 12, 40}, 12);
        Check.is("groups: not when it is warned", x.cellOf(0), 9);
        x.pass(1);
        Check.is("groups: it goes in that hour", x.cellOf(0), 10);
        Check.isChar("groups: it is safe in that hour", x.state(1), 's');
    }

    private static void safeOnAWetCell() {
        for (int water = 2; water <= 5; water++) {
            Stormcellar x = warnAll(flatWithNews(1, water - 1), new int[] {9}, 9);
            x.pass(1);
            Check.isChar("groups: on the shelter's cell with " + water, x.state(0), water <= 4 ? 's' : 'h');
        }
        Stormcellar late = flatWithNews(1, 0, 9, 1);
        warnAll(late, new int[] {9}, 9);
        late.open(0, false);
        late.pass(1);
        late.open(0, true);
        late.pass(1);
        Check.is("groups: one is lost ahead of that", late.people(0), 8);
        Check.isChar("groups: on its way, safe with 10 water", late.state(0), 's');
        Check.is("28: those who are left", late.inShelter(0), 8);
    }

    private static void safeInTheNextHourAtTheEarliest() {
        Stormcellar x = warnAll(flatWithNews(1), new int[] {9}, 10);
        x.pass(1);
        Check.is("groups: it has come", x.cellOf(0), 10);
        Check.isChar("groups: it is not safe yet", x.state(0), 'o');
        Check.is("28: not yet", x.inShelter(0), 0);
        x.pass(1);
        Check.isChar("groups: it is safe in the next hour", x.state(0), 's');
        Check.is("28: then", x.inShelter(0), 9);
        Stormcellar y = warnAll(flatWithNews(1), new int[] {9}, 10);
        y.pass(1);
        y.open(0, false);
        y.pass(3);
        Check.isChar("groups: not into a closed one", y.state(0), 'o');
        Check.is("groups: it stays there", y.cellOf(0), 10);
        y.open(0, true);
        y.pass(1);
        Check.isChar("groups: open again", y.state(0), 's');
    }

    private static void safeIntoTheLowestNumber() {
        for (int open = 1; open < 16; open++) {
            Stormcellar x = warnAll(flatWithNews(1), new int[] {9}, 9, 9, 9, 9);
            int lowest = 4;
            for (int i = 3; i >= 0; i--) {
                boolean isOpen = (open >> i) % 2 == 1;
                x.open(i, isOpen);
                lowest = isOpen ? i : lowest;
            }
            x.pass(1);
            for (int i = 0; i < 4; i++) {
                Check.is("28: of the open ones " + open, x.inShelter(i), i == lowest ? 9 : 0);
            }
        }
    }

    private static void safeOnesStaySafe() {
        Stormcellar x = warnAll(flatWithNews(1, 0, 0, 9, 9, 9, 9), new int[] {9}, 9, 20);
        x.pass(1);
        x.open(0, false);
        x.pass(46);
        Check.is("17: deep water", x.water(9), 37);
        Check.isChar("groups: safe with no water counting", x.state(0), 's');
        Check.is("groups: nobody is lost", x.people(0), 9);
        Check.is("groups: it goes nowhere", x.cellOf(0), 9);
        Check.is("28: it is where it was", x.inShelter(0), 9);
        Check.is("28: not in another one", x.inShelter(1), 0);
    }

    private static char stateWithRoom(int room, int people) {
        Stormcellar x = flatWithNews(1);
        x.addShelter(9, room);
        x.open(0, true);
        x.addGroup(9, people, 0);
        x.pass(1);
        x.warn(0);
        x.pass(1);
        return x.state(0);
    }

    private static void roomForAllItsPeople() {
        Check.isChar("groups: 1 into 1", stateWithRoom(1, 1), 's');
        Check.isChar("groups: 2 into 1", stateWithRoom(1, 2), 'o');
        Check.isChar("groups: 98 into 99", stateWithRoom(99, 98), 's');
        Check.isChar("groups: 99 into 99", stateWithRoom(99, 99), 's');
        Check.isChar("groups: 99 into 98", stateWithRoom(98, 99), 'o');
        Check.isChar("groups: 99 into 500", stateWithRoom(500, 99), 's');
        for (int room = 8; room <= 9; room++) {
            Stormcellar x = flatWithNews(1);
            x.addShelter(12, room);
            x.open(0, true);
            x.addGroup(9, 9, 0);
            x.pass(1);
            x.warn(0);
            x.pass(1);
            Check.is("groups: no way to one with room for " + room, x.cellOf(0), room == 9 ? 10 : 9);
        }
    }

    private static void roomAsItIsNow() {
        Stormcellar x = flatWithNews(1);
        int[] people = {10, 11, 9, 1};
        for (int i = 0; i < 4; i++) {
            x.addGroup(i == 1 ? 10 : 9, people[i], 0);
        }
        x.addShelter(9, 20);
        x.open(0, true);
        x.pass(1);
        for (int i = 0; i < 4; i++) {
            x.warn(i);
        }
        x.pass(1);
        Check.isChar("groups: 10 of 20", x.state(0), 's');
        Check.is("groups: 10 are left, so 11 have no way", x.cellOf(1), 10);
        Check.isChar("groups: 9 of 10", x.state(2), 's');
        Check.isChar("groups: 1 of 1", x.state(3), 's');
        Check.is("28: full", x.inShelter(0), 20);
        Stormcellar race = flatWithNews(1);
        race.addShelter(10, 9);
        warnAll(race, new int[] {8, 9}, 10);
        race.open(0, false);
        race.open(1, false);
        race.pass(1);
        race.open(0, true);
        race.pass(4);
        Check.is("28: the first one there", race.inShelter(0), 9);
        Check.isChar("groups: it was nearer", race.state(1), 's');
        Check.isChar("groups: it comes too late", race.state(0), 'o');
    }

    /** Land in a row from 24 to 27 alone, with 1 water; the group is at 24, the shelter at 27. */
    private static Stormcellar corridor(int groups) {
        Stormcellar x = Coasts.basin(new int[] {24, 25, 26, 27}, new int[] {0, 0, 0, 0});
        x.setHour(0, 0, 1);
        x.addStation(63);
        x.addSensor(24, 1, 1, 0);
        for (int i = 0; i < groups; i++) {
            x.addGroup(24, 9, 0);
        }
        x.addShelter(27, 99);
        x.open(0, true);
        return x;
    }

    private static void warnOn(Stormcellar x, int groups) {
        x.pass(1);
        for (int i = 0; i < groups; i++) {
            x.warn(i);
        }
    }

    private static void waysOverLandAlone() {
        for (int sea = 24; sea <= 28; sea++) {
            Stormcellar x = corridor(1);
            x.setGround(sea, 0, true);
            x.setGround(63, 0, false);
            x.addSensor(63, 1, 1, 0);
            warnOn(x, 1);
            x.pass(1);
            Check.is("ways: with sea at " + sea, x.cellOf(0), sea == 24 || sea == 28 ? 25 : 24);
        }
        Stormcellar there = corridor(1);
        there.setGround(24, 0, true);
        there.setGround(63, 0, false);
        there.addSensor(63, 1, 1, 0);
        there.addShelter(24, 9);
        there.open(1, true);
        warnOn(there, 1);
        there.pass(1);
        Check.isChar("groups: safe on a sea cell", there.state(0), 's');
    }

    /** 3 rain in hours 0 and 1; pumps leave 2 everywhere but on one cell, which keeps 3. */
    private static void waysWithAtMost2Water() {
        for (int wet = 24; wet <= 28; wet++) {
            Stormcellar x = corridor(1);
            x.setHour(1, 0, 2);
            for (int i = 0; i < 4; i++) {
                x.addPump(24 + i, 1, 0);
            }
            warnOn(x, 1);
            for (int i = 0; i < 4; i++) {
                x.turn(i, 24 + i != wet);
            }
            x.pass(1);
            Check.is("17: on the way", x.water(25), wet == 25 ? 3 : 2);
            Check.is("ways: with 3 water at " + wet, x.cellOf(0), wet == 24 || wet == 28 ? 25 : 24);
        }
    }

    private static void waysFromAWetCell() {
        Stormcellar x = Coasts.basin(new int[] {1, 2, 3}, new int[] {0, 30, 30});
        x.setGround(0, 0, true);
        x.setHour(0, 0, 1);
        x.setHour(2, 44, 0);
        x.addStation(63);
        x.addSensor(3, 1, 1, 0);
        x.addGroup(1, 99, 0);
        x.addShelter(3, 99);
        warnOn(x, 1);
        x.pass(1);
        x.open(0, true);
        x.pass(1);
        Check.is("17: on its cell, 1 and a quarter of 43", x.water(1), 11);
        Check.is("groups: 2 sixteenths of 99", x.people(0), 87);
        Check.is("ways: off a wet cell", x.cellOf(0), 2);
    }

    /** Two land cells beside the group's: one on the way to the shelter, and one from which all ways come back. */
    private static void waysNotOverItsOwnCell() {
        Stormcellar x = corridor(0);
        x.setGround(27, 0, true);
        x.addShelter(24, 99);
        x.open(1, true);
        for (int i = 0; i < 5; i++) {
            x.addGroup(25, 9, 0);
        }
        warnOn(x, 5);
        x.pass(1);
        for (int i = 0; i < 5; i++) {
            Check.is("ways: four go, and the fifth does not go back first", x.cellOf(i), i < 4 ? 24 : 25);
        }
    }

    private static void waysOntoACellForFour() {
        for (int groups = 1; groups <= 6; groups++) {
            Stormcellar x = corridor(groups);
            warnOn(x, groups);
            x.pass(1);
            for (int i = 0; i < groups; i++) {
                Check.is("ways: the number " + i + " of " + groups, x.cellOf(i), i < 4 ? 25 : 24);
            }
        }
    }

    private static void waysOntoACellInEachHourAnew() {
        Stormcellar x = corridor(6);
        warnOn(x, 6);
        x.pass(2);
        for (int i = 0; i < 6; i++) {
            Check.is("ways: in the next hour", x.cellOf(i), i < 4 ? 26 : 25);
        }
        x.pass(2);
        for (int i = 0; i < 6; i++) {
            Check.isChar("ways: in the last hour", x.state(i), i < 4 ? 's' : 'o');
        }
        x.pass(1);
        Check.is("28: all are there", x.inShelter(0), 54);
    }

    private static void waysOntoACellNotOfTheSafe() {
        Stormcellar x = flatWithNews(1);
        warnAll(x, new int[] {10, 10, 9, 9, 11, 11}, 10);
        x.pass(1);
        for (int i = 0; i < 6; i++) {
            Check.is("ways: two are there, and four come", x.cellOf(i), 10);
        }
        Stormcellar y = flatWithNews(1);
        warnAll(y, new int[] {9, 9, 10, 11, 11, 2}, 10, 13);
        y.pass(1);
        Check.is("ways: the fourth that comes", y.cellOf(4), 10);
        Check.is("ways: the fifth goes another way", y.cellOf(5), 1);
    }

    private static int firstStep(int from, int... shelterCells) {
        Stormcellar x = warnAll(flatWithNews(1), new int[] {from}, shelterCells);
        x.pass(1);
        return x.cellOf(0);
    }

    private static void waysShortestOfAll() {
        Check.is("ways: 2 right or 3 left", firstStep(27, 24, 29), 28);
        Check.is("ways: 3 left or 4 right", firstStep(27, 31, 24), 26);
        Check.is("ways: 1 down or 2 up", firstStep(27, 11, 35), 35);
        Check.is("ways: from corner to corner", firstStep(0, 63), 1);
        Check.is("ways: from the other corner", firstStep(63, 0), 55);
    }

    /** Four go right, where 29 is 2 away; round it is 4. */
    private static void waysShortestOfThoseThatAreLeft() {
        Stormcellar near = warnAll(flatWithNews(1), manyAt(27, 6), 29, 24);
        near.pass(1);
        Check.is("ways: the fourth", near.cellOf(3), 28);
        Check.is("ways: 3 to the left, 4 round", near.cellOf(4), 26);
        Stormcellar far = warnAll(flatWithNews(1), manyAt(27, 6), 29, 32);
        far.pass(1);
        Check.is("ways: 4 round to the lowest shelter, 4 to the other one", far.cellOf(4), 19);
        Stormcellar turned = warnAll(flatWithNews(1), manyAt(27, 6), 32, 29);
        turned.pass(1);
        Check.is("ways: the fourth to the near one", turned.cellOf(3), 28);
        Check.is("ways: 4 to the lowest shelter, 4 round to the other one", turned.cellOf(4), 26);
    }

    private static void waysToTheLowestShelter() {
        Check.is("ways: right and left, as near", firstStep(27, 29, 25), 28);
        Check.is("ways: left and right, as near", firstStep(27, 25, 29), 26);
        Check.is("ways: down and up, as near", firstStep(27, 43, 11), 35);
        Check.is("ways: four as near", firstStep(27, 43, 29, 25, 11), 35);
        Check.is("ways: the lowest one of three that are nearest", firstStep(27, 0, 29, 25, 11), 28);
    }

    private static void waysByTheLowestNeighbour() {
        Check.is("ways: up or left", firstStep(27, 18), 19);
        Check.is("ways: up or right", firstStep(27, 20), 19);
        Check.is("ways: left or down", firstStep(27, 34), 26);
        Check.is("ways: right or down", firstStep(27, 36), 28);
    }

    private static void waysDoNotWrap() {
        Check.is("ways: from a row's end to the next one's beginning", firstStep(15, 16), 14);
        Check.is("ways: from a row's beginning to the last one's end", firstStep(16, 15), 8);
        Check.is("ways: from the first row to the last one", firstStep(3, 59), 11);
        Check.is("ways: from the last row to the first one", firstStep(59, 3), 51);
    }

    private static void waysThatAreNone() {
        Check.is("ways: no shelter", firstStep(27), 27);
        Check.is("ways: a corner", firstStep(0), 0);
        Stormcellar x = corridor(1);
        x.setGround(26, 0, true);
        warnOn(x, 1);
        x.pass(47);
        Check.is("ways: it stays to the end", x.cellOf(0), 24);
        Check.isChar("ways: on its way to the end", x.state(0), 'o');
        Stormcellar last = corridor(1);
        last.pass(47);
        last.warn(0);
        last.pass(1);
        Check.is("ways: in the last hour", last.cellOf(0), 25);
    }
}
