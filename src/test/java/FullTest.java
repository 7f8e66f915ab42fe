/** As many of everything as there can be, and nothing at all: the hours go by all the same. */
public final class FullTest {
    public static void main(String[] args) {
        p04SixteenDikesWear();
        p05FourStationsUpTo3Water();
        p06EightPumpsAndSensors();
        p08SixGroupsAndFourShelters();
        p33SixteenChoices();
        p39AllOfItIsConsistent();
        nothingAtAll();
        allRefusedBehindThat();
        Check.end();
    }

    /** Seas that differ by 60 press each of the dikes by 1 an hour. */
    private static void p04SixteenDikesWear() {
        Stormcellar x = new Stormcellar();
        for (int cell = 0; cell < 64; cell++) {
            x.setGround(cell, cell / 8 % 2 == 0 ? 0 : 60, true);
        }
        for (int i = 0; i < 16; i++) {
            x.addDike(i, true, 99, 10 + i);
        }
        x.pass(48);
        for (int i = 0; i < 16; i++) {
            Check.is("4: the wear of " + i, x.wear(i), 10 + i);
            Check.is("4: when " + i + " broke", x.brokenAt(i), 9 + i);
        }
        Check.isTrue("39: broken all", x.isConsistent());
    }

    private static Stormcellar fullAtFirst() {
        Stormcellar x = Coasts.flat(1, 0, 0, 0, 0, 9, 9);
        for (int i = 0; i < 16; i++) {
            x.addDike(16 + i, true, 0, 2);
        }
        for (int i = 0; i < 4; i++) {
            x.addStation(60 + i);
            x.addShelter(42 + i, 9);
        }
        for (int i = 0; i < 8; i++) {
            x.addPump(8 + i, 1, i % 4);
            x.addSensor(i, 1, 1 + i, i % 4);
        }
        for (int i = 0; i < 6; i++) {
            x.addGroup(32 + i, 9, 0);
        }
        return x;
    }

    /**
     * One water lies everywhere but where pumps took it; the first sensor has news at 1, the last one at 8. Groups 2
     * to 5 are warned and go down to a shelter each; 9 rain comes in the hours 5 and 6.
     */
    private static Stormcellar full(int hours) {
        Stormcellar x = fullAtFirst();
        for (int i = 0; i < 8; i++) {
            x.turn(i, true);
        }
        for (int i = 0; i < 4; i++) {
            x.open(i, true);
        }
        x.pass(1);
        for (int i = 2; i < 6; i++) {
            x.warn(i);
        }
        if (hours > 1) {
            x.pass(hours - 1);
        }
        return x;
    }

    private static void p05FourStationsUpTo3Water() {
        for (int i = 0; i < 4; i++) {
            Check.isTrue("5: 1 water at station " + i, full(5).hasPower(i));
            Check.isFalse("5: 10 water at station " + i, full(6).hasPower(i));
        }
    }

    private static void p06EightPumpsAndSensors() {
        Stormcellar x = full(1);
        for (int i = 0; i < 8; i++) {
            Check.is("6: pumped dry " + i, x.water(8 + i), 0);
            Check.is("7: its news " + i, x.newsAt(i), 1 + i);
        }
        Check.is("35: by rain", x.come(), 64);
        Check.is("36: by eight pumps", x.gone(), 8);
        Check.is("36: none without power", full(48).gone(), 8);
    }

    private static void p08SixGroupsAndFourShelters() {
        Stormcellar x = full(3);
        for (int i = 0; i < 6; i++) {
            Check.isChar("27: the group " + i, x.state(i), i < 2 ? 'h' : 's');
        }
        for (int i = 0; i < 4; i++) {
            Check.is("28: in the shelter " + i, x.inShelter(i), 9);
            Check.is("25: at the shelter " + i, x.cellOf(2 + i), 42 + i);
        }
        Check.is("29: 1 of each group at 10 water", full(6).harm(), 2);
        Check.is("29: 5 more of each group at 19 water", full(7).harm(), 12);
    }

    /** Without a shelter the others are full when its group comes, so it is lost like the two at home. */
    private static void p33SixteenChoices() {
        Stormcellar x = full(7);
        Check.is("31: sixteen", x.choices(), 16);
        for (int i = 0; i < 16; i++) {
            Check.is("33: without the choice " + i, x.harmWithout(i), i < 8 ? 12 : 18);
            Check.is("32: the hour of the choice " + i, x.choiceHour(i), i < 12 ? 0 : 1);
        }
        Check.noElement("34: all were good", () -> x.worst());
    }

    private static void p39AllOfItIsConsistent() {
        for (int hour = 1; hour <= 48; hour++) {
            Check.isTrue("39: as many of everything as there can be", full(hour).isConsistent());
        }
    }

    private static void nothingAtAll() {
        Stormcellar x = new Stormcellar();
        Check.is("15: with nothing there", x.pass(48), 48);
        Check.isTrue("39: with nothing there", x.isConsistent());
        Check.is("29: nobody is there", x.harm(), 0);
        Check.isText("35: no water", x.come() + " " + x.gone(), "0 0");
    }

    private static void allRefusedBehindThat() {
        Edge.refuses("4: behind sixteen", Edge.STATE, FullTest::fullAtFirst, x -> x.addDike(0, true, 9, 9));
        Edge.refuses("5: behind four", Edge.STATE, FullTest::fullAtFirst, x -> x.addStation(9));
        Edge.refuses("6: behind eight", Edge.STATE, FullTest::fullAtFirst, x -> x.addPump(9, 9, 0));
        Edge.refuses("7: behind eight", Edge.STATE, FullTest::fullAtFirst, x -> x.addSensor(9, 9, 9, 0));
        Edge.refuses("8: behind six", Edge.STATE, FullTest::fullAtFirst, x -> x.addGroup(9, 9, 0));
        Edge.refuses("9: behind four", Edge.STATE, FullTest::fullAtFirst, x -> x.addShelter(9, 9));
    }
}
