/** Promises 1 to 3: a new object, and the ground and the hours ahead of the storm; a test for each sentence. */
public final class CoastTest {
    public static void main(String[] args) {
        p01HourIs0();
        p01EachOf64CellsIsLand();
        p01NothingIsThereYet();
        p01ObjectsAreApart();
        p02CellFrom0To63();
        p02HeightFrom0To60();
        p02ReturnsTheGroundBefore();
        p02SeaOrLand();
        p02NotBehindAnHour();
        p02WhichExceptionIsFirst();
        p03HourFrom0To47();
        p03SeaFrom0To80();
        p03RainFrom0To9();
        p03ReturnsWhatWasToldBefore();
        p03NotBehindAnHour();
        p03WhichExceptionIsFirst();
        Check.end();
    }

    private static void p01HourIs0() {
        Check.is("1: the hour", new Stormcellar().hour(), 0);
        Check.is("1: all the 48 hours are left", new Stormcellar().pass(48), 48);
    }

    private static void p01EachOf64CellsIsLand() {
        Stormcellar x = new Stormcellar();
        x.setHour(0, 80, 1);
        for (int cell = 0; cell < 64; cell++) {
            Check.is("1: no water on " + cell, x.water(cell), 0);
            Check.is("1: no ground on " + cell, x.level(cell), 0);
        }
        x.pass(1);
        for (int cell = 0; cell < 64; cell++) {
            Check.is("1: rain on land " + cell, x.water(cell), 1);
        }
        Check.is("1: 64 cells got rain", x.come(), 64);
        Check.is("1: no sea takes any", x.gone(), 0);
    }

    private static void p01NothingIsThereYet() {
        Stormcellar x = new Stormcellar();
        Check.is("1: choices", x.choices(), 0);
        Check.is("1: harm", x.harm(), 0);
        Check.is("1: come", x.come(), 0);
        Check.is("1: gone", x.gone(), 0);
        Check.isFalse("1: isKnown", x.isKnown());
        Check.isReal("1: wetShare", x.wetShare(), 0.0f);
        Check.isReal("1: meanWater", x.meanWater(), 0.0);
        Check.isTrue("1: isConsistent", x.isConsistent());
        x.pass(48);
        Check.is("1: no water comes of itself", x.come(), 0);
        for (int hour = 0; hour < 48; hour++) {
            Check.is("1: nothing is told for hour " + hour, new Stormcellar().setHour(hour, 0, 0), 0);
        }
    }

    private static void p01ObjectsAreApart() {
        Stormcellar used = Coasts.wholeAt(9);
        Stormcellar x = new Stormcellar();
        Check.isText("1: another object was used", Coasts.tell(x), Coasts.tell(new Stormcellar()));
        x.setGround(1, 60, true);
        Check.isText("1: another object is used", Coasts.tell(used), Coasts.tell(Coasts.wholeAt(9)));
    }

    private static void p02CellFrom0To63() {
        Edge.range("2: cell", Edge.INDEX, 0, 63, Coasts::whole, (x, cell) -> x.setGround(cell, 7, false));
        for (int cell = 0; cell < 64; cell++) {
            Stormcellar x = new Stormcellar();
            x.setGround(cell, 7, false);
            for (int other = 0; other < 64; other++) {
                Check.is("2: level of " + other, x.level(other), other == cell ? 7 : 0);
            }
        }
    }

    private static void p02HeightFrom0To60() {
        Edge.range("2: height of land", Edge.ARGUMENT, 0, 60, Coasts::whole, (x, high) -> x.setGround(9, high, false));
        Edge.range("2: height of sea", Edge.ARGUMENT, 0, 60, Coasts::whole, (x, high) -> x.setGround(8, high, true));
        Stormcellar x = new Stormcellar();
        for (int height = 60; height >= 0; height--) {
            x.setGround(9, height, height % 2 == 0);
            Check.is("2: level by a ground of " + height, x.level(9), height);
        }
    }

    private static void p02ReturnsTheGroundBefore() {
        Stormcellar x = new Stormcellar();
        Check.is("2: 0 at first", x.setGround(5, 60, true), 0);
        Check.is("2: 60 of sea", x.setGround(5, 3, false), 60);
        Check.is("2: 3 of land", x.setGround(5, 3, false), 3);
        Check.is("2: 3 again", x.setGround(5, 0, true), 3);
        Check.is("2: 0 again", x.setGround(5, 0, true), 0);
        x.setHour(0, 50, 0);
        Check.is("2: the ground, not the level of the sea", x.setGround(5, 1, true), 0);
    }

    private static void p02SeaOrLand() {
        Stormcellar x = Coasts.flat(4);
        x.setGround(5, 0, true);
        x.setGround(6, 0, true);
        x.setGround(6, 0, false);
        x.setHour(0, 4, 4);
        x.pass(1);
        Check.is("2: no rain on sea", x.water(5), 0);
        Check.is("2: rain on what is land again", x.water(6), 4);
        Check.is("2: rain on 63 cells", x.come(), 63 * 4);
    }

    private static void p02NotBehindAnHour() {
        Stormcellar x = Coasts.whole();
        x.turn(0, true);
        Check.noValue("15: no hour goes by", () -> x.pass(0));
        Check.is("2: behind a choice, and a refused pass", x.setGround(9, 5, false), 0);
        Edge.refuses("2: in hour 1", Edge.STATE, () -> Coasts.wholeAt(1), y -> y.setGround(9, 5, true));
        Edge.refuses("2: in hour 48", Edge.STATE, () -> Coasts.wholeAt(48), y -> y.setGround(0, 0, false));
    }

    private static void p02WhichExceptionIsFirst() {
        Edge.refuses("2: cell and height", Edge.INDEX, Coasts::whole, x -> x.setGround(64, 61, false));
        Edge.refuses("2: cell and height below", Edge.INDEX, Coasts::whole, x -> x.setGround(-1, -1, true));
        Edge.refuses("2: cell and hour", Edge.INDEX, () -> Coasts.wholeAt(1), x -> x.setGround(-1, 0, false));
        Edge.refuses("2: height and hour", Edge.ARGUMENT, () -> Coasts.wholeAt(1), x -> x.setGround(0, 61, false));
        Edge.refuses("2: all three", Edge.INDEX, () -> Coasts.wholeAt(1), x -> x.setGround(64, -1, false));
    }

    private static void p03HourFrom0To47() {
        Edge.range("3: hour", Edge.ARGUMENT, 0, 47, Coasts::whole, (x, hour) -> x.setHour(hour, 33, 3));
        for (int hour = 0; hour < 48; hour++) {
            Stormcellar x = new Stormcellar();
            x.setGround(0, 60, true);
            x.setHour(hour, 80, 1);
            Check.is("3: level ahead of hour " + hour, x.level(0), hour == 0 ? 80 : 60);
            if (hour > 0) {
                x.pass(hour);
            }
            Check.is("3: dry ahead of hour " + hour, x.water(63), 0);
            Check.is("3: level in hour " + hour, x.level(0), 80);
            x.pass(1);
            Check.is("3: rain in hour " + hour, x.water(63), 1);
            Check.is("3: level behind hour " + hour, x.level(0), hour == 47 ? 80 : 60);
        }
    }

    private static void p03SeaFrom0To80() {
        Edge.range("3: sea", Edge.ARGUMENT, 0, 80, Coasts::whole, (x, sea) -> x.setHour(3, sea, 0));
        Stormcellar x = new Stormcellar();
        x.setGround(0, 0, true);
        for (int sea = 0; sea <= 80; sea++) {
            x.setHour(0, sea, 0);
            Check.is("3: level of the sea at " + sea, x.level(0), sea);
        }
    }

    private static void p03RainFrom0To9() {
        Edge.range("3: rain", Edge.ARGUMENT, 0, 9, Coasts::whole, (x, rain) -> x.setHour(3, 5, rain));
        for (int rain = 0; rain <= 9; rain++) {
            Stormcellar x = Coasts.flat(rain);
            x.pass(1);
            Check.is("3: rain of " + rain, x.water(9), rain);
            Check.is("3: come by rain of " + rain, x.come(), 64 * rain);
        }
    }

    private static void p03ReturnsWhatWasToldBefore() {
        Stormcellar x = new Stormcellar();
        Check.is("3: nothing at first", x.setHour(47, 80, 9), 0);
        Check.is("3: the most", x.setHour(47, 0, 9), 809);
        Check.is("3: rain alone", x.setHour(47, 80, 0), 9);
        Check.is("3: sea alone", x.setHour(47, 1, 1), 800);
        Check.is("3: the least of both", x.setHour(47, 1, 1), 11);
        Check.is("3: the same again", x.setHour(47, 0, 0), 11);
        Check.is("3: each hour by itself", x.setHour(46, 0, 0), 0);
    }

    private static void p03NotBehindAnHour() {
        Stormcellar x = Coasts.whole();
        x.turn(0, true);
        Check.is("3: behind a choice", x.setHour(11, 0, 0), 442);
        Edge.refuses("3: in hour 1", Edge.STATE, () -> Coasts.wholeAt(1), y -> y.setHour(5, 80, 9));
        Edge.refuses("3: in hour 48", Edge.STATE, () -> Coasts.wholeAt(48), y -> y.setHour(47, 1, 1));
    }

    private static void p03WhichExceptionIsFirst() {
        Edge.refuses("3: hour told and hour", Edge.ARGUMENT, () -> Coasts.wholeAt(1), x -> x.setHour(48, 0, 0));
        Edge.refuses("3: sea and hour", Edge.ARGUMENT, () -> Coasts.wholeAt(1), x -> x.setHour(5, 81, 0));
        Edge.refuses("3: rain and hour", Edge.ARGUMENT, () -> Coasts.wholeAt(1), x -> x.setHour(5, 0, 10));
        Edge.refuses("3: three numbers", Edge.ARGUMENT, Coasts::whole, x -> x.setHour(-1, -1, -1));
        Edge.refuses("3: sea below, though the sum is right", Edge.ARGUMENT, Coasts::whole, x -> x.setHour(5, -1, 9));
    }
}
