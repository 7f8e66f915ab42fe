/** Promises 25 to 30: how groups are lost, and how they go to shelters; PeopleEdgeTest has the edges. */
public final class PeopleTest {
    public static void main(String[] args) {
        losses();
        statesAndNumbers();
        shortestWay();
        longWay();
        dryWays();
        fourOntoACell();
        noWayBack();
        safety();
        rooms();
        reasonsAtHome();
        reasonsOnTheWay();
        Check.end();
    }

    /** Groups that are warned in hour 1, on flat land with 1 water. */
    private static Stormcellar warned(int[] cells, int[] people, int[] shelterCells, int[] rooms) {
        Stormcellar x = Coasts.flat(1);
        return warnedOn(x, cells, people, shelterCells, rooms);
    }

    private static Stormcellar warnedOn(Stormcellar x, int[] cells, int[] people, int[] shelterCells, int[] rooms) {
        Coasts.addNews(x);
        for (int i = 0; i < cells.length; i++) {
            x.addGroup(cells[i], people[i], 0);
        }
        for (int i = 0; i < shelterCells.length; i++) {
            x.addShelter(shelterCells[i], rooms[i]);
            x.open(i, true);
        }
        x.pass(1);
        for (int i = 0; i < cells.length; i++) {
            x.warn(i);
        }
        return x;
    }

    private static void losses() {
        int[] people = {99, 16, 15, 1, 32};
        int[] at9 = {99, 16, 15, 1, 32};
        int[] at10 = {93, 15, 14, 0, 30};
        int[] at19 = {35, 6, 6, 0, 12};
        Stormcellar x = Coasts.flat(9, 1, 9);
        for (int i = 0; i < 5; i++) {
            x.addGroup(9 + i, people[i], 0);
        }
        x.addGroup(63, 99, 0);
        x.setGround(63, 0, true);
        x.setHour(0, 9, 9);
        x.setHour(1, 10, 1);
        x.setHour(2, 19, 9);
        x.pass(1);
        for (int i = 0; i < 5; i++) {
            Check.is("26: at 9", x.people(i), at9[i]);
        }
        Check.is("29: none at 9", x.harm(), 0);
        x.pass(1);
        for (int i = 0; i < 5; i++) {
            Check.is("26: at 10", x.people(i), at10[i]);
        }
        Check.is("29: at 10", x.harm(), 11);
        x.pass(1);
        for (int i = 0; i < 5; i++) {
            Check.is("26: at 19", x.people(i), at19[i]);
        }
        Check.is("29: at 19", x.harm(), 104);
        Check.is("26: no water on sea", x.people(5), 99);
        allLost(25, 7, 16);
        allLost(24, 6, 15);
        Stormcellar deep = Coasts.flat(9, 9, 9);
        deep.addGroup(9, 1, 0);
        deep.addGroup(9, 99, 0);
        deep.pass(3);
        Check.is("26: at 27, from 44", deep.people(1), 0);
        Check.is("29: at most all", deep.harm(), 100);
    }

    private static void allLost(int water, int last, int due) {
        Stormcellar x = Coasts.flat(9, 9, last);
        x.addGroup(9, 99, 0);
        x.pass(2);
        Check.is("26: at 18", x.people(0), 44);
        x.pass(1);
        Check.is("26: at " + water, x.people(0), 44 - 44 * due / 16);
        Check.is("29: at " + water, x.harm(), 55 + 44 * due / 16);
        Check.isChar("27: at " + water, x.state(0), due == 16 ? 'l' : 'h');
    }

    private static void statesAndNumbers() {
        Stormcellar x = warned(new int[] {9, 27}, new int[] {5, 6}, new int[] {11}, new int[] {5});
        Check.isChar("27: a warning", x.state(0), 'a');
        x.pass(1);
        Check.isChar("27: on its way", x.state(0), 'o');
        Check.is("25: one cell on", x.cellOf(0), 10);
        Check.is("25: no room for it", x.cellOf(1), 27);
        x.pass(1);
        Check.is("25: two cells on", x.cellOf(0), 11);
        Check.isChar("27: there, not safe yet", x.state(0), 'o');
        Check.is("28: not yet", x.inShelter(0), 0);
        x.pass(1);
        Check.isChar("27: safe", x.state(0), 's');
        Check.is("28: in it", x.inShelter(0), 5);
        Check.is("26: safe people", x.people(0), 5);
        Check.is("25: its cell", x.cellOf(0), 11);
        Check.noElement("30: nobody was lost", () -> x.reason(0));
        Check.is("29: none", x.harm(), 0);
    }

    private static int firstStep(int from, int... shelterCells) {
        int[] rooms = new int[shelterCells.length];
        java.util.Arrays.fill(rooms, 9);
        Stormcellar x = warned(new int[] {from}, new int[] {9}, shelterCells, rooms);
        x.pass(1);
        return x.cellOf(0);
    }

    private static void shortestWay() {
        Check.is("ways: right", firstStep(27, 30), 28);
        Check.is("ways: left", firstStep(27, 24), 26);
        Check.is("ways: up", firstStep(27, 3), 19);
        Check.is("ways: down", firstStep(27, 59), 35);
        Check.is("ways: of right and down the lower number", firstStep(27, 36), 28);
        Check.is("ways: of up and left the lower number", firstStep(27, 18), 19);
        Check.is("ways: of left and down the lower number", firstStep(27, 34), 26);
        Check.is("ways: the lowest shelter", firstStep(27, 29, 25), 28);
        Check.is("ways: the lowest shelter, whatever its cell", firstStep(27, 51, 3), 35);
        Check.is("ways: the nearer one", firstStep(27, 59, 25), 26);
        Check.is("ways: its own neighbour", firstStep(27, 35), 35);
        Check.is("ways: no row's end", firstStep(7, 8), 6);
        Check.is("ways: no shelter", firstStep(27), 27);
        Check.is("ways: up to the first cell", firstStep(8, 0), 0);
        Check.is("ways: left to the edge", firstStep(25, 24), 24);
        Check.is("ways: right to the edge", firstStep(30, 31), 31);
        Check.is("ways: down to the last cell", firstStep(55, 63), 63);

        Stormcellar round = Coasts.flat(1);
        for (int cell : new int[] {12, 20, 28, 36}) {
            round.setGround(cell, 0, true);
        }
        warnedOn(round, new int[] {27}, new int[] {9}, new int[] {29}, new int[] {9});
        int[] way = {35, 43, 44, 45, 37, 29};
        for (int cell : way) {
            round.pass(1);
            Check.is("ways: round the sea", round.cellOf(0), cell);
        }
        round.pass(1);
        Check.isChar("ways: safe in the end", round.state(0), 's');
    }

    /** Four rows of land that hang together at their ends alone. */
    private static void longWay() {
        Stormcellar x = Coasts.flat(1);
        for (int row = 1; row < 8; row += 2) {
            for (int column = 0; column < 8; column++) {
                boolean isGap = row < 7 && column == (row % 4 == 1 ? 7 : 0);
                x.setGround(8 * row + column, 0, !isGap);
            }
        }
        Coasts.addNews(x);
        x.setGround(63, 0, false);
        x.addGroup(0, 9, 0);
        x.addShelter(48, 9);
        x.open(0, true);
        x.pass(1);
        x.warn(0);
        x.pass(1);
        Check.is("ways: a long one begins", x.cellOf(0), 1);
        x.pass(32);
        Check.is("ways: nearly there", x.cellOf(0), 49);
        x.pass(1);
        Check.is("ways: after 34 cells", x.cellOf(0), 48);
        Check.isChar("ways: not safe yet", x.state(0), 'o');
        x.pass(1);
        Check.isChar("ways: safe", x.state(0), 's');
    }

    private static void dryWays() {
        for (int rain = 2; rain <= 3; rain++) {
            Stormcellar x = warnedOn(Coasts.flat(1, rain - 1), new int[] {27}, new int[] {9},
                    new int[] {30}, new int[] {9});
            x.pass(1);
            Check.is("ways: with " + rain + " water", x.cellOf(0), rain == 2 ? 28 : 27);
        }
        Check.is("ways: its own cell may be wet", stepAmongWet(28, 29), 28);
        Check.is("ways: the shelter's cell must be dry", stepAmongWet(28, 36), 27);
        Check.is("ways: each cell between must be dry", stepAmongWet(36, 29), 27);

        Stormcellar sea = Coasts.flat(1);
        sea.setGround(29, 0, true);
        warnedOn(sea, new int[] {27, 29}, new int[] {9, 9}, new int[] {29}, new int[] {30});
        sea.pass(1);
        Check.is("ways: no way onto sea", sea.cellOf(0), 27);
        Check.isChar("ways: at home on the sea", sea.state(1), 's');
        Stormcellar off = Coasts.flat(1);
        off.setGround(29, 0, true);
        warnedOn(off, new int[] {29}, new int[] {9}, new int[] {27}, new int[] {30});
        off.pass(1);
        Check.is("ways: off the sea", off.cellOf(0), 28);
    }

    /** All cells have 3 water but for two that are pumped; the shelter is at 29. */
    private static int stepAmongWet(int one, int other) {
        Stormcellar x = Coasts.flat(1, 2);
        x.addStation(62);
        x.addPump(one, 1, 0);
        x.addPump(other, 1, 0);
        warnedOn(x, new int[] {27}, new int[] {9}, new int[] {29}, new int[] {9});
        x.turn(0, true);
        x.turn(1, true);
        x.pass(1);
        return x.cellOf(0);
    }

    private static void fourOntoACell() {
        int[] cells = {27, 27, 27, 27, 27, 27};
        int[] people = {1, 2, 3, 4, 5, 6};
        Stormcellar x = warned(cells, people, new int[] {29}, new int[] {500});
        x.pass(1);
        for (int i = 0; i < 4; i++) {
            Check.is("ways: onto the nearest cell", x.cellOf(i), 28);
        }
        Check.is("ways: the fifth goes round", x.cellOf(4), 19);
        Check.is("ways: so does the sixth", x.cellOf(5), 19);
        x.pass(1);
        Check.is("ways: counted anew in each hour", x.cellOf(3), 29);
        Check.is("ways: the fifth goes on", x.cellOf(4), 20);
        x.pass(2);
        Check.is("28: those who were there", x.inShelter(0), 10);
        x.pass(1);
        Check.is("28: all", x.inShelter(0), 21);

        Stormcellar from = warned(new int[] {26, 28, 19, 35, 25, 29}, people, new int[] {27}, new int[] {500});
        from.pass(1);
        for (int i = 0; i < 4; i++) {
            Check.is("ways: from four sides", from.cellOf(i), 27);
        }
        Check.is("ways: to where one was", from.cellOf(4), 26);
        Check.is("ways: to where another was", from.cellOf(5), 28);
        Stormcellar there = warned(new int[] {28, 28, 28, 28, 27}, people, new int[] {30}, new int[] {500});
        there.pass(1);
        Check.is("ways: who left it does not count", there.cellOf(4), 28);
    }

    private static void noWayBack() {
        Stormcellar x = Coasts.flat(1);
        x.setGround(9, 0, true);
        x.setGround(16, 0, true);
        warnedOn(x, new int[] {0, 0, 0, 0, 0}, new int[] {1, 1, 1, 1, 1}, new int[] {2}, new int[] {9});
        x.pass(1);
        Check.is("ways: the fourth", x.cellOf(3), 1);
        Check.is("ways: the fifth does not come back over its cell", x.cellOf(4), 0);
        x.pass(1);
        Check.is("ways: in the next hour", x.cellOf(4), 1);
    }

    private static void safety() {
        Stormcellar x = warnedOn(Coasts.flat(1, 0, 0, 0, 9, 9), new int[] {9, 11}, new int[] {16, 16},
                new int[] {10}, new int[] {20});
        x.pass(1);
        Check.is("28: none yet", x.inShelter(0), 0);
        x.pass(1);
        Check.is("28: the first one", x.inShelter(0), 16);
        Check.isChar("27: no room for the second one", x.state(1), 'o');
        Check.is("25: it stays", x.cellOf(1), 10);
        x.open(0, false);
        Check.is("13: who is in it stays", x.inShelter(0), 16);
        x.pass(3);
        Check.is("26: no water counts for the safe", x.people(0), 16);
        Check.is("26: it does for others on the same cell", x.people(1), 6);
        Check.isChar("30: no room", x.reason(1), 's');
        Check.noElement("30: none of the safe", () -> x.reason(0));
        Check.is("28: still there", x.inShelter(0), 16);

        Stormcellar shut = warned(new int[] {9}, new int[] {5}, new int[] {10, 14}, new int[] {5, 5});
        shut.pass(1);
        Check.is("25: onto the cell", shut.cellOf(0), 10);
        shut.open(0, false);
        shut.pass(1);
        Check.is("25: on to another one", shut.cellOf(0), 11);
        Check.is("28: closed", shut.inShelter(0), 0);
    }

    private static void rooms() {
        Stormcellar x = warned(new int[] {9, 9, 9}, new int[] {10, 7, 3}, new int[] {9, 9}, new int[] {12, 10});
        x.pass(1);
        Check.is("28: the lowest number first", x.inShelter(0), 10);
        Check.is("28: the two behind it", x.inShelter(1), 10);
        Check.isTrue("39: full", x.isConsistent());
        Stormcellar y = warned(new int[] {9, 9}, new int[] {10, 3}, new int[] {9, 12}, new int[] {12, 3});
        y.pass(1);
        Check.isChar("27: 12 take 10", y.state(0), 's');
        Check.is("25: 2 do not take 3", y.cellOf(1), 10);
        Stormcellar z = warned(new int[] {9}, new int[] {10}, new int[] {10}, new int[] {9});
        z.pass(1);
        Check.is("25: 9 do not take 10", z.cellOf(0), 9);
    }

    private static void reasonsAtHome() {
        Stormcellar x = Coasts.flat(9, 9, 9);
        x.addGroup(9, 99, 0);
        x.pass(1);
        Check.noElement("30: nobody yet", () -> x.reason(0));
        x.pass(1);
        Check.isChar("30: no news", x.reason(0), 'k');

        Stormcellar late = Coasts.flat(3, 9);
        late.addStation(63);
        late.addSensor(9, 3, 2, 0);
        late.addGroup(9, 99, 0);
        late.pass(2);
        Check.isChar("30: the news comes in the next hour", late.reason(0), 'k');
        Check.isTrue("24: now it is there", late.isKnown());

        Stormcellar y = Coasts.flat(1, 0, 9, 9);
        Coasts.addNews(y);
        y.addGroup(9, 32, 0);
        y.addGroup(9, 32, 3);
        y.addGroup(9, 32, 2);
        y.addGroup(9, 32, 0);
        y.pass(1);
        y.warn(1);
        y.warn(2);
        y.pass(1);
        y.warn(3);
        y.pass(1);
        Check.isChar("30: no warning", y.reason(0), 'w');
        Check.isChar("30: on its way to it", y.reason(1), 'a');
        Check.isChar("30: in this very hour", y.reason(3), 'a');
        Check.isChar("30: on its way to it still", y.reason(2), 'a');
        y.pass(1);
        Check.isChar("30: why they were lost first", y.reason(1), 'a');

        Stormcellar dropped = Coasts.flat(1, 9, 9);
        Coasts.addNews(dropped);
        dropped.addGroup(9, 32, 0);
        dropped.addSensor(9, 1, 1, 0);
        dropped.pass(1);
        dropped.warn(0);
        dropped.pass(1);
        Check.isChar("30: lost as the warning comes", dropped.reason(0), 'a');
        Stormcellar wet = Coasts.flat(1, 5, 9);
        Coasts.addNews(wet);
        wet.addGroup(9, 32, 0);
        wet.pass(1);
        wet.warn(0);
        wet.pass(2);
        Check.isChar("30: the warning did not reach it", wet.reason(0), 'w');
    }

    /** Groups that are on their way in the pit, which is filled to 10 in hour 2; 32 people each. */
    private static Stormcellar inThePit(int groups, int shelterCell, int room) {
        Stormcellar x = Coasts.pit(0, 0, 40);
        x.setHour(0, 0, 1);
        Coasts.addNews(x);
        for (int i = 0; i < groups; i++) {
            x.addGroup(1, 32, 0);
        }
        x.addShelter(shelterCell, room);
        x.pass(1);
        for (int i = 0; i < groups; i++) {
            x.warn(i);
        }
        x.pass(1);
        Check.isChar("27: on its way", x.state(0), 'o');
        Check.is("25: no shelter is open yet", x.cellOf(0), 1);
        return x;
    }

    private static void reasonsOnTheWay() {
        Stormcellar closed = inThePit(1, 3, 99);
        closed.pass(1);
        Check.is("26: two are lost", closed.people(0), 30);
        Check.isChar("30: no open shelter", closed.reason(0), 's');
        Stormcellar small = inThePit(1, 3, 31);
        small.open(0, true);
        small.pass(1);
        Check.isChar("30: no room, as it was ahead of the loss", small.reason(0), 's');
        Check.is("25: room behind the loss", small.cellOf(0), 2);
        Stormcellar cutOff = inThePit(1, 0, 99);
        cutOff.open(0, true);
        cutOff.pass(1);
        Check.isChar("30: no way", cutOff.reason(0), 'r');
        Stormcellar there = inThePit(1, 1, 99);
        there.open(0, true);
        there.pass(1);
        Check.isChar("30: on the shelter's cell", there.reason(0), 'd');
        Check.is("28: those who are left", there.inShelter(0), 30);
        Stormcellar none = Coasts.pit(0, 0, 80);
        none.setHour(0, 0, 1);
        Coasts.addNews(none);
        none.addGroup(1, 1, 0);
        none.addShelter(3, 9);
        none.pass(1);
        none.warn(0);
        none.pass(1);
        none.open(0, true);
        none.pass(3);
        Check.isChar("27: nobody is left", none.state(0), 'l');
        Check.is("25: without people left, nothing more is done", none.cellOf(0), 1);
        Check.is("28: nobody comes", none.inShelter(0), 0);
        Stormcellar five = inThePit(5, 3, 500);
        five.open(0, true);
        five.pass(1);
        for (int i = 0; i < 5; i++) {
            Check.isChar("30: on its way", five.reason(i), 'd');
            Check.is("26: two are lost", five.people(i), 30);
        }
        Check.is("25: the fourth one went", five.cellOf(3), 2);
        Check.is("25: the fifth had no way, as four went", five.cellOf(4), 9);
    }
}
