/** Promises 15 to 24, and how the terms go through 1 to 7 of an hour: a test for each sentence with an edge. */
public final class StormEdgeTest {
    public static void main(String[] args) {
        p15HoursFrom1To48();
        p15NotAbove48();
        p15WhichExceptionIsFirst();
        p15AtOnceOrOneByOne();
        p16HourFrom0To48();
        p17CellFrom0To63();
        p17SeaHas0();
        p18CellFrom0To63();
        p18SeaOrItsGround();
        p18HourBehind47();
        p19DikeFrom0();
        p19HowItIs();
        p20DikeFrom0();
        p20NotIfItStands();
        p20HourFrom0To48();
        p21DikeFrom0();
        p21NoneAtFirst();
        p22StationFrom0();
        p22PowerUpTo3Water();
        p23SensorFrom0();
        p23NotIfNothingWasNoticed();
        p23HourThatMayStillCome();
        p24FromTheHourOn();
        p24AnyNews();
        Check.end();
    }

    private static Stormcellar withDikes(int number) {
        Stormcellar x = Coasts.whole();
        for (int i = 2; i < number; i++) {
            x.addDike(32 + i, true, 9, 9);
        }
        return x;
    }

    private static Stormcellar withStations(int number) {
        Stormcellar x = Coasts.whole();
        for (int i = 1; i < number; i++) {
            x.addStation(40 + i);
        }
        return x;
    }

    private static Stormcellar withSensors(int number) {
        Stormcellar x = Coasts.whole();
        for (int i = 1; i < number; i++) {
            x.addSensor(40 + i, 1, 1, 0);
        }
        x.pass(2);
        return x;
    }

    private static void p15HoursFrom1To48() {
        Edge.range("15: hours", Edge.ARGUMENT, 1, 48, Coasts::whole, (x, hours) -> x.pass(hours));
        for (int hours = 1; hours <= 48; hours++) {
            Check.is("15: the hour then", Coasts.whole().pass(hours), hours);
        }
    }

    private static void p15NotAbove48() {
        for (int hour = 1; hour <= 48; hour++) {
            int now = hour;
            if (hour < 48) {
                Check.is("15: to 48", Coasts.wholeAt(hour).pass(48 - hour), 48);
            }
            Edge.refuses("15: to 49", Edge.STATE, () -> Coasts.wholeAt(now), x -> x.pass(49 - now));
        }
        Edge.refuses("15: to 96", Edge.STATE, () -> Coasts.wholeAt(48), x -> x.pass(48));
    }

    private static void p15WhichExceptionIsFirst() {
        Edge.refuses("15: 0 and the hour", Edge.ARGUMENT, () -> Coasts.wholeAt(48), x -> x.pass(0));
        Edge.refuses("15: 49 and the hour", Edge.ARGUMENT, () -> Coasts.wholeAt(48), x -> x.pass(49));
        Edge.refuses("15: the most and the hour", Edge.ARGUMENT, () -> Coasts.wholeAt(1),
                x -> x.pass(Integer.MAX_VALUE));
    }

    private static void p15AtOnceOrOneByOne() {
        for (int hours = 1; hours <= 48; hours++) {
            Stormcellar x = Coasts.wholeAt(0);
            Stormcellar y = Coasts.wholeAt(0);
            x.pass(hours);
            for (int hour = 1; hour <= hours; hour++) {
                Check.is("15: one more", y.pass(1), hour);
            }
            Check.isText("15: " + hours + " at once", Coasts.tell(x), Coasts.tell(y));
        }
    }

    private static void p16HourFrom0To48() {
        for (int hour = 0; hour <= 48; hour++) {
            Stormcellar x = Coasts.wholeAt(hour);
            Check.is("16: the hour", x.hour(), hour);
            Check.noValue("15: no hour", () -> x.pass(0));
            Check.is("16: the hour still", x.hour(), hour);
        }
    }

    private static void p17CellFrom0To63() {
        Edge.range("17: cell", Edge.INDEX, 0, 63, () -> Coasts.wholeAt(3), (x, cell) -> x.water(cell));
        Edge.range("17: cell in the end", Edge.INDEX, 0, 63, () -> Coasts.wholeAt(48), (x, cell) -> x.water(cell));
    }

    private static void p17SeaHas0() {
        Stormcellar x = new Stormcellar();
        for (int cell = 0; cell < 64; cell++) {
            x.setGround(cell, cell % 2 == 0 ? 60 : 0, true);
        }
        x.setHour(0, 80, 9);
        x.pass(1);
        for (int cell = 0; cell < 64; cell++) {
            Check.is("17: water on sea", x.water(cell), 0);
        }
    }

    private static void p18CellFrom0To63() {
        Edge.range("18: cell", Edge.INDEX, 0, 63, () -> Coasts.wholeAt(3), (x, cell) -> x.level(cell));
        Edge.range("18: cell in the end", Edge.INDEX, 0, 63, () -> Coasts.wholeAt(48), (x, cell) -> x.level(cell));
    }

    private static void p18SeaOrItsGround() {
        for (int sea = 0; sea <= 80; sea++) {
            Stormcellar x = Coasts.pit(sea);
            x.setGround(5, 30, true);
            x.setGround(6, 30, false);
            Check.is("18: the sea at " + sea + ", its ground at 30", x.level(5), sea > 30 ? sea : 30);
            Check.is("18: the sea at " + sea + ", its ground at 0", x.level(0), sea);
            Check.is("18: land does not see the sea", x.level(6), 30);
        }
        Stormcellar wet = Coasts.flat(9);
        wet.setGround(6, 60, false);
        wet.pass(1);
        Check.is("18: 60 with what is left of 9 water", wet.level(6), 60 + wet.water(6));
        Check.is("18: 9 but for a quarter to each of three sides", wet.water(6), 3);
    }

    private static void p18HourBehind47() {
        Stormcellar x = Coasts.pit();
        x.setHour(46, 61, 0);
        x.setHour(47, 62, 0);
        x.pass(46);
        Check.is("18: in the hour 46", x.level(0), 61);
        x.pass(1);
        Check.is("18: in the hour 47", x.level(0), 62);
        x.pass(1);
        Check.is("18: behind it", x.level(0), 62);
    }

    private static void p19DikeFrom0() {
        Edge.range("19: dike, none yet", Edge.INDEX, 0, -1, Stormcellar::new, (x, dike) -> x.dike(dike));
        Edge.range("19: dike of 2", Edge.INDEX, 0, 1, () -> Coasts.wholeAt(9), (x, dike) -> x.dike(dike));
        Edge.range("19: dike of 16", Edge.INDEX, 0, 15, () -> withDikes(16), (x, dike) -> x.dike(dike));
    }

    private static void p19HowItIs() {
        Stormcellar x = Coasts.pit(80, 20, 20);
        x.addDike(0, false, 40, 10);
        x.addDike(0, true, 90, 3);
        x.addDike(40, true, 90, 99);
        for (int i = 0; i < 3; i++) {
            Check.isChar("19: it stands", x.dike(i), '-');
        }
        x.pass(3);
        x.cut(2);
        Check.isChar("19: by the flow", x.dike(0), 'o');
        Check.isChar("19: by the press", x.dike(1), 'p');
        Check.isChar("19: by the cut", x.dike(2), 'c');
        x.pass(45);
        Check.isChar("19: it stays so, o", x.dike(0), 'o');
        Check.isChar("19: it stays so, p", x.dike(1), 'p');
        Check.isChar("19: it stays so, c", x.dike(2), 'c');
    }

    private static Stormcellar withBrokenDikes(int number) {
        Stormcellar x = withDikes(number);
        for (int i = 0; i < number; i++) {
            x.cut(i);
        }
        return x;
    }

    private static void p20DikeFrom0() {
        Edge.range("20: dike, none yet", Edge.INDEX, 0, -1, Stormcellar::new, (x, dike) -> x.brokenAt(dike));
        Edge.range("20: dike of 2", Edge.INDEX, 0, 1, () -> withBrokenDikes(2), (x, dike) -> x.brokenAt(dike));
        Edge.range("20: dike of 16", Edge.INDEX, 0, 15, () -> withBrokenDikes(16), (x, dike) -> x.brokenAt(dike));
        Edge.refuses("20: no such dike, though none is broken", Edge.INDEX, Coasts::whole, x -> x.brokenAt(2));
    }

    private static void p20NotIfItStands() {
        Edge.refuses("20: ahead of the storm", Edge.ELEMENT, Coasts::whole, x -> x.brokenAt(1));
        Edge.refuses("20: it stands in the end", Edge.ELEMENT, StormEdgeTest::weakerByOne, x -> x.brokenAt(0));
    }

    /** Pressed in each of 48 hours, with a strength of 49. */
    private static Stormcellar weakerByOne() {
        Stormcellar x = Coasts.pit();
        for (int hour = 0; hour < 48; hour++) {
            x.setHour(hour, 60, 0);
        }
        x.addDike(0, false, 60, 49);
        x.pass(48);
        Check.is("21: by 1 in each hour", x.wear(0), 48);
        return x;
    }

    private static void p20HourFrom0To48() {
        for (int hour = 0; hour < 48; hour++) {
            Stormcellar x = Coasts.pit();
            x.setHour(hour, 80, 0);
            x.addDike(0, false, 72, 2);
            if (hour > 0) {
                x.pass(hour);
            }
            Check.noElement("20: ahead of the hour " + hour, () -> x.brokenAt(0));
            x.pass(1);
            Check.is("20: it broke in the hour", x.brokenAt(0), hour);
            if (hour < 47) {
                x.pass(1);
                Check.is("20: it stays so", x.brokenAt(0), hour);
            }
        }
        for (int hour = 0; hour <= 48; hour++) {
            Stormcellar x = Coasts.wholeAt(hour);
            x.cut(1);
            Check.is("20: cut in the hour", x.brokenAt(1), hour);
        }
    }

    private static void p21DikeFrom0() {
        Edge.range("21: dike, none yet", Edge.INDEX, 0, -1, Stormcellar::new, (x, dike) -> x.wear(dike));
        Edge.range("21: dike of 2", Edge.INDEX, 0, 1, () -> Coasts.wholeAt(9), (x, dike) -> x.wear(dike));
        Edge.range("21: dike of 16", Edge.INDEX, 0, 15, () -> withDikes(16), (x, dike) -> x.wear(dike));
    }

    private static void p21NoneAtFirst() {
        Stormcellar x = withDikes(16);
        for (int i = 0; i < 16; i++) {
            Check.is("21: none at first", x.wear(i), 0);
        }
        x.cut(15);
        Check.is("21: a cut does not wear", x.wear(15), 0);
    }

    private static void p22StationFrom0() {
        Edge.range("22: station, none yet", Edge.INDEX, 0, -1, Stormcellar::new, (x, number) -> x.hasPower(number));
        Edge.range("22: station of 1", Edge.INDEX, 0, 0, () -> Coasts.wholeAt(9), (x, number) -> x.hasPower(number));
        Edge.range("22: station of 4", Edge.INDEX, 0, 3, () -> withStations(4), (x, number) -> x.hasPower(number));
    }

    private static void p22PowerUpTo3Water() {
        for (int rain = 0; rain <= 9; rain++) {
            Stormcellar x = Coasts.flat(rain);
            x.addStation(9);
            Check.isTrue("22: at first", x.hasPower(0));
            x.pass(1);
            Check.is("22: with " + rain + " water", x.hasPower(0) ? 1 : 0, rain <= 3 ? 1 : 0);
        }
    }

    private static void p23SensorFrom0() {
        Edge.range("23: sensor, none yet", Edge.INDEX, 0, -1, Stormcellar::new, (x, sensor) -> x.newsAt(sensor));
        Edge.range("23: sensor of 1", Edge.INDEX, 0, 0, () -> Coasts.wholeAt(9), (x, sensor) -> x.newsAt(sensor));
        Edge.range("23: sensor of 8", Edge.INDEX, 0, 7, () -> withSensors(8), (x, sensor) -> x.newsAt(sensor));
        Edge.refuses("23: no such sensor, though none has noticed", Edge.INDEX, Coasts::whole, x -> x.newsAt(1));
    }

    private static void p23NotIfNothingWasNoticed() {
        Edge.refuses("23: ahead of the storm", Edge.ELEMENT, Coasts::whole, x -> x.newsAt(0));
        Edge.refuses("23: ahead of the rain", Edge.ELEMENT, () -> Coasts.wholeAt(1), x -> x.newsAt(0));
        Check.is("23: behind the rain", Coasts.wholeAt(2).newsAt(0), 2);
        Edge.refuses("23: dry to the end", Edge.ELEMENT, StormEdgeTest::dryToTheEnd, x -> x.newsAt(0));
    }

    private static Stormcellar dryToTheEnd() {
        Stormcellar x = Coasts.flat();
        Coasts.addNews(x);
        x.pass(48);
        return x;
    }

    private static void p23HourThatMayStillCome() {
        for (int hour = 0; hour < 48; hour++) {
            Stormcellar x = new Stormcellar();
            x.setHour(hour, 0, 1);
            x.addStation(63);
            x.addSensor(9, 1, 9, 0);
            x.addSensor(9, 1, 1, 0);
            x.pass(hour + 1);
            Check.is("23: 9 hours later", x.newsAt(0), hour + 9);
            Check.is("23: 1 hour later", x.newsAt(1), hour + 1);
        }
    }

    private static void p24FromTheHourOn() {
        for (int delay = 1; delay <= 9; delay++) {
            Stormcellar x = Coasts.flat(1);
            x.addStation(63);
            x.addSensor(9, 1, delay, 0);
            for (int hour = 0; hour < 48; hour++) {
                Check.is("24: by a delay of " + delay, x.isKnown() ? 1 : 0, hour >= delay ? 1 : 0);
                x.pass(1);
            }
            Check.isTrue("24: in the hour 48", x.isKnown());
        }
        for (int delay = 1; delay <= 2; delay++) {
            Stormcellar late = new Stormcellar();
            late.setHour(47, 0, 1);
            late.addStation(63);
            late.addSensor(9, 1, delay, 0);
            late.pass(48);
            Check.is("24: noticed in the hour 47", late.isKnown() ? 1 : 0, delay == 1 ? 1 : 0);
        }
    }

    private static void p24AnyNews() {
        Check.isFalse("24: without sensors", Coasts.flat(9).isKnown());
        for (int wet = 0; wet < 8; wet++) {
            Stormcellar x = Coasts.basin(new int[] {9}, new int[] {0});
            x.setHour(0, 0, 1);
            x.addStation(63);
            for (int i = 0; i < 8; i++) {
                x.addSensor(i == wet ? 9 : 40, 1, 1, 0);
            }
            x.pass(1);
            Check.isTrue("24: one of eight is enough", x.isKnown());
        }
    }
}
