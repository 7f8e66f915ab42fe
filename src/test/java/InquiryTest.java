/** Promises 31 to 39: the storm run again without each choice, and the sums of the water; InquiryEdgeTest has the edges. */
public final class InquiryTest {
    public static void main(String[] args) {
        withoutARescue();
        withoutACut();
        firstOfSeveral();
        leftOutChoices();
        withoutNews();
        withoutAPump();
        sameHour();
        water();
        shares();
        consistency();
        Check.end();
    }

    private static void withoutARescue() {
        Stormcellar x = Coasts.flat(1, 0, 0, 9, 9);
        Coasts.addNews(x);
        x.addGroup(27, 16, 0);
        x.addShelter(28, 16);
        x.open(0, true);
        x.pass(1);
        x.warn(0);
        Check.is("33: nothing has happened yet", x.harmWithout(1), 0);
        x.pass(3);
        Check.is("33: by now", x.harmWithout(1), 1);
        x.pass(1);
        Check.is("29: none", x.harm(), 0);
        Check.is("33: without the shelter", x.harmWithout(0), 10);
        Check.is("33: without the warning", x.harmWithout(1), 10);
        Check.noElement("34: all were good", () -> x.worst());
        Check.is("29: asking changes nothing", x.harm(), 0);
        Check.isChar("27: asking changes nothing", x.state(0), 's');
        Check.is("16: asking changes nothing", x.hour(), 5);
    }

    private static Stormcellar behindADike(int strength) {
        Stormcellar x = Coasts.pit(40, 40, 40, 40, 40);
        x.addDike(0, false, 40, strength);
        x.addGroup(1, 16, 0);
        return x;
    }

    private static void withoutACut() {
        Stormcellar x = behindADike(99);
        Check.noElement("34: no choice at all", () -> x.worst());
        x.raise(0, 1);
        x.pass(1);
        x.cut(0);
        x.pass(1);
        Check.is("29: one is lost", x.harm(), 1);
        Check.is("33: without the raising", x.harmWithout(0), 1);
        Check.is("33: without the cut", x.harmWithout(1), 0);
        Check.is("34: the cut", x.worst(), 1);
        x.pass(1);
        Check.is("29: above 9 by 8", x.harm(), 8);
        Check.is("34: the cut still", x.worst(), 1);
    }

    private static void firstOfSeveral() {
        Stormcellar x = Coasts.pit(40, 0, 40);
        x.addDike(0, false, 99, 99);
        x.addGroup(1, 16, 0);
        x.addGroup(17, 99, 0);
        x.addStation(63);
        x.addPump(1, 20, 0);
        x.turn(0, true);
        x.turn(0, false);
        x.cut(0);
        x.turn(0, false);
        x.pass(1);
        Check.is("29: one", x.harm(), 1);
        Check.is("33: without the turning on", x.harmWithout(0), 1);
        Check.is("33: without the turning off", x.harmWithout(1), 1);
        Check.is("33: without the cut", x.harmWithout(2), 0);
        Check.is("34: the only one", x.worst(), 2);

        Stormcellar y = Coasts.pit(40);
        y.addDike(0, false, 99, 99);
        y.addGroup(1, 16, 0);
        y.addStation(63);
        y.addPump(1, 20, 0);
        y.turn(0, true);
        y.turn(0, false);
        y.cut(0);
        y.pass(1);
        Check.is("33: it pumps again", y.harmWithout(1), 0);
        Check.is("33: it does not flow", y.harmWithout(2), 0);
        Check.is("34: the first of the two", y.worst(), 1);
    }

    private static void leftOutChoices() {
        Stormcellar x = Coasts.pit(48, 48, 48, 48);
        x.addDike(0, false, 40, 3);
        x.addGroup(1, 16, 0);
        x.raise(0, 10);
        x.pass(2);
        x.raise(0, 10);
        x.cut(0);
        Check.is("33: ahead of the flood", x.harmWithout(0), 0);
        x.pass(2);
        Check.is("29: 3 at 12 water, 9 at 21", x.harm(), 12);
        Check.is("33: broken in hour 1, so it is neither raised nor cut", x.harmWithout(0), 14);
        Check.is("33: raised a last time or not, it is cut", x.harmWithout(1), 12);
        Check.is("33: pressed in hour 2, so 3 at 12 water", x.harmWithout(2), 3);
        Check.is("34: the cut", x.worst(), 2);
        Check.isTrue("39: all done", x.isConsistent());

        Stormcellar z = Coasts.flat(1, 4, 0, 9, 9);
        Coasts.addNews(z);
        z.addGroup(9, 16, 1);
        z.addShelter(10, 16);
        z.open(0, true);
        z.pass(1);
        z.warn(0);
        z.pass(2);
        Check.isChar("27: the warning did not reach it", z.state(0), 'h');
        z.warn(0);
        z.pass(1);
        Check.is("33: the other warning is done all the same", z.harmWithout(1), z.harm());

        Stormcellar late = Coasts.flat(1, 0, 0);
        Coasts.addNews(late);
        late.addPump(63, 1, 0);
        late.addGroup(9, 16, 0);
        late.turn(0, false);
        late.pass(2);
        late.warn(0);
        late.pass(1);
        Check.is("33: without what changes nothing", late.harmWithout(0), 0);
        Check.isTrue("39: with what changes nothing", late.isConsistent());
    }

    /** Without the cut no news comes, so the warning cannot be done, and the rain finds the group at home. */
    private static void withoutNews() {
        Stormcellar x = Coasts.pit(4, 0, 0, 0, 0, 0, 0);
        for (int hour = 3; hour < 7; hour++) {
            x.setHour(hour, 0, 9);
        }
        x.addDike(0, false, 99, 99);
        x.addStation(63);
        x.addSensor(1, 1, 1, 0);
        x.addPump(40, 20, 0);
        x.addGroup(40, 32, 0);
        x.addShelter(40, 99);
        x.cut(0);
        x.pass(1);
        x.open(0, true);
        x.warn(0);
        x.pass(3);
        Check.isChar("27: safe", x.state(0), 's');
        Check.isTrue("39: the first time", x.isConsistent());
        x.pass(1);
        Check.is("29: none", x.harm(), 0);
        Check.isTrue("39: safe again and again", x.isConsistent());
        Check.isTrue("39: safe again and again", x.isConsistent());
        Check.is("33: 18 water, 9 above 9", x.harmWithout(0), 18);
        Check.is("33: without the shelter", x.harmWithout(1), 18);
        Check.is("33: without the warning", x.harmWithout(2), 18);
        Check.is("28: asking changes nothing", x.inShelter(0), 32);
    }

    private static void withoutAPump() {
        Stormcellar x = Coasts.pit(40, 40);
        x.addStation(63);
        x.addPump(1, 20, 0);
        x.addPump(1, 20, 0);
        x.addGroup(1, 16, 0);
        x.turn(0, true);
        x.turn(1, true);
        x.pass(2);
        Check.isTrue("39: pumped dry", x.isConsistent());
        Check.is("33: the other pump is enough", x.harmWithout(0), 0);
        Check.is("33: the first pump is enough", x.harmWithout(1), 0);
        Stormcellar y = Coasts.pit(40, 40);
        y.addStation(63);
        y.addPump(1, 20, 0);
        y.addGroup(1, 16, 0);
        y.turn(0, true);
        y.pass(1);
        Check.isTrue("39: pumped dry", y.isConsistent());
        Check.is("33: it was off at first", y.harmWithout(0), 1);
        Stormcellar z = Coasts.pit(40, 40);
        z.addDike(0, false, 99, 99);
        z.addGroup(1, 16, 0);
        z.cut(0);
        z.pass(1);
        Check.is("34: the very first choice", z.worst(), 0);
    }

    private static void sameHour() {
        Stormcellar x = behindADike(99);
        x.pass(1);
        x.cut(0);
        Check.is("33: in the same hour", x.harmWithout(0), 0);
        x.pass(1);
        Check.is("29: one", x.harm(), 1);
        Check.is("33: in the next hour", x.harmWithout(0), 0);
        Stormcellar y = Coasts.pit(40);
        y.addDike(0, false, 20, 99);
        y.addStation(63);
        y.addPump(1, 20, 0);
        y.addGroup(1, 16, 0);
        y.raise(0, 10);
        y.cut(0);
        Check.is("33: ahead of the first hour", y.harmWithout(0), 0);
        y.pass(1);
        Check.is("33: raised, then cut", y.harmWithout(0), 1);
        Check.is("33: raised, not cut", y.harmWithout(1), 0);
        Check.is("34: the cut", y.worst(), 1);
    }

    private static void water() {
        Stormcellar x = Coasts.pit(40, 40, 0);
        x.setHour(0, 40, 3);
        x.addStation(63);
        x.addPump(63, 2, 0);
        x.turn(0, true);
        x.pass(1);
        Check.is("35: 63 times 3, and 9 from the sea", x.come(), 198);
        Check.is("36: by the pump", x.gone(), 2);
        Check.is("17: rain, and then the sea", x.water(1), 12);
    }

    private static void shares() {
        Stormcellar x = Coasts.pit(40);
        Check.isReal("37: dry", x.wetShare(), 0.0f);
        Check.isReal("38: dry", x.meanWater(), 0.0);
        x.pass(1);
        Check.isReal("37: one of 63", x.wetShare(), 1.0f / 63.0f);
        Check.isReal("38: 10 on 63", x.meanWater(), 10.0 / 63.0);
        Stormcellar y = Coasts.flat(9);
        y.pass(1);
        Check.isReal("37: all", y.wetShare(), 1.0f);
        Stormcellar one = Coasts.pit(4);
        one.pass(1);
        Check.isReal("37: with 1 water", one.wetShare(), 1.0f / 63.0f);
        Check.isReal("38: all", y.meanWater(), 9.0);
        Stormcellar sea = new Stormcellar();
        for (int cell = 0; cell < 64; cell++) {
            sea.setGround(cell, 0, true);
        }
        Check.refuses("37: no land", ArithmeticException.class, () -> sea.wetShare());
        Check.refuses("38: no land", ArithmeticException.class, () -> sea.meanWater());
        Check.isTrue("39: no land", sea.isConsistent());
        sea.setGround(63, 0, false);
        Check.isReal("37: a single cell", sea.wetShare(), 0.0f);
        Check.isReal("38: a single cell", sea.meanWater(), 0.0);
    }

    private static void consistency() {
        Stormcellar x = Coasts.flat(1, 0, 0, 9, 9, 9, 9);
        x.setGround(0, 0, true);
        for (int hour = 1; hour < 20; hour++) {
            x.setHour(hour, 60, hour % 3);
        }
        x.addDike(0, false, 9, 9);
        x.addDike(0, true, 30, 60);
        Coasts.addNews(x);
        x.addPump(20, 3, 0);
        x.addGroup(9, 50, 1);
        x.addGroup(27, 40, 0);
        x.addShelter(29, 70);
        x.open(0, true);
        for (int hour = 0; hour < 48; hour++) {
            Check.isTrue("39: in hour " + hour, x.isConsistent());
            if (hour == 1) {
                x.warn(0);
                x.warn(1);
                x.turn(0, true);
            }
            if (hour == 5) {
                x.turn(0, false);
                x.cut(1);
            }
            x.pass(1);
        }
        Check.isTrue("39: in the end", x.isConsistent());
    }
}
