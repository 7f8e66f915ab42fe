/** Promises 1 to 9: a new object, and the coast ahead of the storm. */
public final class CoastTest {
    public static void main(String[] args) {
        newObject();
        setGround();
        setHour();
        addDike();
        addDikeRefuses();
        addStation();
        addPump();
        addSensor();
        addGroup();
        addShelter();
        allIsOverBehindAnHour();
        refusedCallsChangeNothing();
        Check.end();
    }

    private static void newObject() {
        Stormcellar x = new Stormcellar();
        Check.is("1: hour", x.hour(), 0);
        Check.is("1: choices", x.choices(), 0);
        Check.is("1: harm", x.harm(), 0);
        Check.is("1: come", x.come(), 0);
        Check.is("1: gone", x.gone(), 0);
        Check.isFalse("1: isKnown", x.isKnown());
        Check.isTrue("1: isConsistent", x.isConsistent());
        for (int cell = 0; cell < 64; cell++) {
            Check.is("1: water " + cell, x.water(cell), 0);
            Check.is("1: level " + cell, x.level(cell), 0);
        }
        Check.noCell("1: dike", () -> x.dike(0));
        Check.noCell("1: hasPower", () -> x.hasPower(0));
        Check.noCell("1: turn", () -> x.turn(0, true));
        Check.noCell("1: newsAt", () -> x.newsAt(0));
        Check.noCell("1: cellOf", () -> x.cellOf(0));
        Check.noCell("1: inShelter", () -> x.inShelter(0));
        Check.is("1: pass", x.pass(48), 48);
        Check.is("1: nothing comes by itself", x.come(), 0);

        Stormcellar rained = Coasts.flat(1);
        rained.pass(1);
        Check.is("1: 64 cells are land", rained.come(), 64);
    }

    private static void setGround() {
        Stormcellar x = new Stormcellar();
        Check.is("2: first", x.setGround(5, 7, false), 0);
        Check.is("2: level", x.level(5), 7);
        Check.is("2: to sea", x.setGround(5, 60, true), 7);
        Check.is("2: level of high sea", x.level(5), 60);
        Check.is("2: again", x.setGround(5, 0, false), 60);
        Check.is("2: level of land", x.level(5), 0);
        Check.is("2: last cell", x.setGround(63, 60, true), 0);
        Check.is("2: first cell", x.setGround(0, 0, true), 0);
        x.setHour(0, 30, 2);
        Check.is("2: level of low sea", x.level(0), 30);
        Check.is("2: ground above the sea", x.level(63), 60);
        x.pass(1);
        Check.is("2: no rain on sea", x.water(0), 0);
        Check.noCell("2: cell -1", () -> new Stormcellar().setGround(-1, 61, false));
        Check.noCell("2: cell 64", () -> new Stormcellar().setGround(64, -1, false));
        Check.noValue("2: height -1", () -> new Stormcellar().setGround(0, -1, false));
        Check.noValue("2: height 61", () -> new Stormcellar().setGround(63, 61, true));
    }

    private static void setHour() {
        Stormcellar x = new Stormcellar();
        x.setGround(0, 0, true);
        Check.is("3: first", x.setHour(0, 80, 9), 0);
        Check.is("3: before", x.setHour(0, 3, 4), 809);
        Check.is("3: before again", x.setHour(0, 0, 0), 34);
        Check.is("3: last hour", x.setHour(47, 80, 9), 0);
        Check.is("3: last hour again", x.setHour(47, 5, 0), 809);
        Check.is("3: another hour", x.setHour(1, 7, 2), 0);
        x.pass(1);
        Check.is("3: dry in hour 0", x.come(), 0);
        Check.is("3: the sea of hour 1", x.level(0), 7);
        x.pass(1);
        Check.is("3: rain of hour 1", x.water(63), 2);
        Stormcellar y = new Stormcellar();
        Check.noValue("3: hour -1", () -> y.setHour(-1, 0, 0));
        Check.noValue("3: hour 48", () -> y.setHour(48, 0, 0));
        Check.noValue("3: sea -1", () -> y.setHour(0, -1, 0));
        Check.noValue("3: sea 81", () -> y.setHour(0, 81, 0));
        Check.noValue("3: rain -1", () -> y.setHour(0, 0, -1));
        Check.noValue("3: rain 10", () -> y.setHour(0, 0, 10));
    }

    private static void addDike() {
        Stormcellar x = Coasts.pit(40);
        Check.is("4: first", x.addDike(0, false, 20, 99), 0);
        Check.is("4: lower", x.addDike(0, true, 99, 2), 1);
        Check.isChar("4: it stands", x.dike(0), '-');
        Check.is("4: no wear yet", x.wear(0), 0);
        Check.noCell("4: no third one", () -> x.dike(2));
        x.pass(1);
        Check.is("4: it holds water up to its crest", x.water(1), 5);

        Stormcellar y = new Stormcellar();
        for (int i = 0; i < 15; i++) {
            Check.is("4: number", y.addDike(i / 2, i % 2 == 0, 0, 2), i);
        }
        Check.is("4: the sixteenth", y.addDike(55, true, 99, 99), 15);
        Check.noTime("4: the seventeenth", () -> y.addDike(40, false, 0, 2));
        Check.noDeed("4: a taken place comes ahead of the number", () -> y.addDike(55, true, 0, 2));
        Check.noValue("4: a range comes ahead of the place", () -> y.addDike(55, true, 100, 2));

        Stormcellar z = new Stormcellar();
        z.addDike(9, false, 0, 2);
        Check.is("4: the lower place is another one", z.addDike(9, true, 0, 2), 1);
        Check.is("4: from the other side it is another one", z.addDike(10, false, 0, 2), 2);
        z.cut(0);
        Check.noDeed("4: a broken one is there still", () -> z.addDike(9, false, 50, 50));
    }

    private static void addDikeRefuses() {
        Stormcellar x = new Stormcellar();
        Check.noCell("4: cell -1", () -> x.addDike(-1, false, 0, 2));
        Check.noCell("4: cell 64", () -> x.addDike(64, true, 0, 2));
        Check.noCell("4: least cell", () -> x.addDike(Integer.MIN_VALUE, true, -1, 2));
        Check.noCell("4: right of 7", () -> x.addDike(7, false, 100, 2));
        Check.noCell("4: right of 63", () -> x.addDike(63, false, 0, 2));
        Check.noCell("4: below 56", () -> x.addDike(56, true, 0, 1));
        Check.noCell("4: below 63", () -> x.addDike(63, true, 0, 2));
        Check.noValue("4: crest -1", () -> x.addDike(0, false, -1, 2));
        Check.noValue("4: crest 100", () -> x.addDike(0, false, 100, 2));
        Check.noValue("4: strength 1", () -> x.addDike(0, false, 0, 1));
        Check.noValue("4: strength 100", () -> x.addDike(0, false, 0, 100));
        Check.is("4: below 7", x.addDike(7, true, 0, 2), 0);
        Check.is("4: right of 56", x.addDike(56, false, 99, 99), 1);
    }

    private static void addStation() {
        Stormcellar x = new Stormcellar();
        Check.noCell("5: cell -1", () -> x.addStation(-1));
        Check.noCell("5: cell 64", () -> x.addStation(64));
        Check.noCell("5: no station", () -> x.hasPower(0));
        Check.is("5: first", x.addStation(0), 0);
        Check.isTrue("5: it has power", x.hasPower(0));
        Check.is("5: same cell", x.addStation(0), 1);
        Check.is("5: last cell", x.addStation(63), 2);
        Check.is("5: fourth", x.addStation(1), 3);
        Check.noTime("5: fifth", () -> x.addStation(1));
        Check.noCell("5: the cell comes first", () -> x.addStation(64));
    }

    private static void addPump() {
        Stormcellar x = Coasts.flat(2);
        Check.noCell("6: no station", () -> x.addPump(0, 1, 0));
        x.addStation(63);
        Check.noCell("6: cell -1", () -> x.addPump(-1, 1, 0));
        Check.noCell("6: cell 64", () -> x.addPump(64, 0, 0));
        Check.noCell("6: station -1", () -> x.addPump(0, 0, -1));
        Check.noCell("6: station 1", () -> x.addPump(0, 21, 1));
        Check.noValue("6: rate 0", () -> x.addPump(0, 0, 0));
        Check.noValue("6: rate 21", () -> x.addPump(0, 21, 0));
        for (int i = 0; i < 8; i++) {
            Check.is("6: number", x.addPump(0, i % 2 == 0 ? 1 : 20, 0), i);
        }
        Check.noTime("6: ninth", () -> x.addPump(0, 1, 0));
        Check.noValue("6: the rate comes first", () -> x.addPump(0, 0, 0));
        x.pass(1);
        Check.is("6: a new pump is off", x.water(0), 2);
        Check.isFalse("6: a new pump was off", x.turn(7, true));
    }

    private static void addSensor() {
        Stormcellar x = new Stormcellar();
        Check.noCell("7: no station", () -> x.addSensor(0, 1, 1, 0));
        x.addStation(63);
        Check.noCell("7: cell -1", () -> x.addSensor(-1, 1, 1, 0));
        Check.noCell("7: cell 64", () -> x.addSensor(64, 0, 1, 0));
        Check.noCell("7: station -1", () -> x.addSensor(0, 0, 1, -1));
        Check.noCell("7: station 1", () -> x.addSensor(0, 1, 0, 1));
        Check.noValue("7: depth 0", () -> x.addSensor(0, 0, 1, 0));
        Check.noValue("7: depth 21", () -> x.addSensor(0, 21, 1, 0));
        Check.noValue("7: delay 0", () -> x.addSensor(0, 1, 0, 0));
        Check.noValue("7: delay 10", () -> x.addSensor(0, 1, 10, 0));
        for (int i = 0; i < 8; i++) {
            Check.is("7: number", x.addSensor(0, i % 2 == 0 ? 1 : 20, i % 2 == 0 ? 9 : 1, 0), i);
        }
        Check.noTime("7: ninth", () -> x.addSensor(0, 1, 1, 0));
        Check.noValue("7: the depth comes first", () -> x.addSensor(0, 21, 1, 0));
        Check.noElement("7: it has noticed nothing", () -> x.newsAt(7));
    }

    private static void addGroup() {
        Stormcellar x = new Stormcellar();
        Check.noCell("8: cell -1", () -> x.addGroup(-1, 1, 0));
        Check.noCell("8: cell 64", () -> x.addGroup(64, 0, 0));
        Check.noValue("8: people 0", () -> x.addGroup(0, 0, 0));
        Check.noValue("8: people 100", () -> x.addGroup(0, 100, 0));
        Check.noValue("8: delay -1", () -> x.addGroup(0, 1, -1));
        Check.noValue("8: delay 6", () -> x.addGroup(0, 1, 6));
        for (int i = 0; i < 6; i++) {
            Check.is("8: number", x.addGroup(10 + i, i % 2 == 0 ? 1 : 99, i), i);
        }
        Check.is("8: cell", x.cellOf(5), 15);
        Check.is("8: people", x.people(5), 99);
        Check.isChar("8: at home", x.state(5), 'h');
        Check.noTime("8: seventh", () -> x.addGroup(0, 1, 0));
        Check.noValue("8: the people come first", () -> x.addGroup(0, 0, 0));
    }

    private static void addShelter() {
        Stormcellar x = new Stormcellar();
        Check.noCell("9: cell -1", () -> x.addShelter(-1, 1));
        Check.noCell("9: cell 64", () -> x.addShelter(64, 0));
        Check.noValue("9: room 0", () -> x.addShelter(0, 0));
        Check.noValue("9: room 501", () -> x.addShelter(0, 501));
        for (int i = 0; i < 4; i++) {
            Check.is("9: number", x.addShelter(63, i % 2 == 0 ? 1 : 500), i);
        }
        Check.is("9: nobody is in it", x.inShelter(3), 0);
        Check.noTime("9: fifth", () -> x.addShelter(0, 1));
        Check.noValue("9: the room comes first", () -> x.addShelter(0, 501));
        Check.isFalse("9: it is closed", x.open(3, false));
    }

    private static void allIsOverBehindAnHour() {
        Stormcellar x = new Stormcellar();
        x.addStation(0);
        x.addDike(0, false, 1, 2);
        x.pass(1);
        Check.noTime("2: late", () -> x.setGround(0, 0, false));
        Check.noValue("2: late, wrong height", () -> x.setGround(0, 61, false));
        Check.noCell("2: late, wrong cell", () -> x.setGround(64, 0, false));
        Check.noTime("3: late", () -> x.setHour(47, 0, 0));
        Check.noValue("3: late, wrong hour", () -> x.setHour(48, 0, 0));
        Check.noTime("4: late", () -> x.addDike(1, false, 0, 2));
        Check.noDeed("4: late, taken", () -> x.addDike(0, false, 0, 2));
        Check.noCell("4: late, no neighbour", () -> x.addDike(63, false, 0, 2));
        Check.noTime("5: late", () -> x.addStation(0));
        Check.noTime("6: late", () -> x.addPump(0, 1, 0));
        Check.noCell("6: late, wrong station", () -> x.addPump(0, 1, 1));
        Check.noTime("7: late", () -> x.addSensor(0, 1, 1, 0));
        Check.noValue("7: late, wrong delay", () -> x.addSensor(0, 1, 0, 0));
        Check.noTime("8: late", () -> x.addGroup(0, 1, 0));
        Check.noTime("9: late", () -> x.addShelter(0, 1));
        Check.noCell("9: late, wrong cell", () -> x.addShelter(-1, 1));
    }

    private static void refusedCallsChangeNothing() {
        Stormcellar x = ready();
        Stormcellar y = ready();
        Check.noValue("2: refused", () -> x.setGround(9, 61, true));
        Check.noValue("3: refused", () -> x.setHour(0, 3, 10));
        Check.noValue("4: refused", () -> x.addDike(20, false, 3, 1));
        Check.noDeed("4: refused, taken", () -> x.addDike(1, false, 99, 99));
        Check.noValue("6: refused", () -> x.addPump(9, 0, 0));
        Check.noValue("7: refused", () -> x.addSensor(9, 1, 0, 0));
        Check.noValue("8: refused", () -> x.addGroup(9, 9, 6));
        Check.noValue("9: refused", () -> x.addShelter(9, 0));
        x.pass(3);
        y.pass(3);
        Check.noTime("2: refused, late", () -> x.setGround(9, 30, true));
        Check.noTime("3: refused, late", () -> x.setHour(5, 80, 9));
        Check.noTime("4: refused, late", () -> x.addDike(20, false, 50, 50));
        Check.noTime("5: refused, late", () -> x.addStation(9));
        Check.noTime("6: refused, late", () -> x.addPump(9, 9, 0));
        Check.noTime("7: refused, late", () -> x.addSensor(9, 9, 9, 0));
        Check.noTime("8: refused, late", () -> x.addGroup(9, 9, 0));
        Check.noTime("9: refused, late", () -> x.addShelter(9, 9));
        x.pass(5);
        y.pass(5);
        Check.isText("refused calls change nothing",
                Coasts.tell(x, 1, 1, 1, 1, 1), Coasts.tell(y, 1, 1, 1, 1, 1));
        Check.noCell("no dike was added", () -> x.dike(1));
        Check.noCell("no station was added", () -> x.hasPower(1));
        Check.noCell("no sensor was added", () -> x.newsAt(1));
        Check.noCell("no group was added", () -> x.cellOf(1));
        Check.noCell("no shelter was added", () -> x.inShelter(1));
        Check.noCell("no pump was added", () -> x.turn(0, true));
    }

    private static Stormcellar ready() {
        Stormcellar x = Coasts.flat(1, 2, 0, 3);
        x.setGround(0, 0, true);
        x.setHour(2, 50, 0);
        x.addDike(1, false, 4, 9);
        Coasts.addNews(x);
        x.addGroup(12, 40, 1);
        x.addShelter(14, 100);
        return x;
    }
}
