/** Promises 15 to 24: how an hour is gone through; StormEdgeTest has the edges. */
public final class StormTest {
    public static void main(String[] args) {
        hourWaterAndLevel();
        flowsFromAndToTheSea();
        flowsOnLand();
        flowsOverHighSea();
        dikesThatOverflow();
        dikesThatArePressed();
        power();
        pumps();
        sensors();
        Check.end();
    }

    private static void hourWaterAndLevel() {
        Stormcellar x = Coasts.flat(2, 3);
        x.setGround(0, 4, true);
        x.setGround(9, 7, true);
        x.setHour(45, 3, 0);
        x.setHour(46, 20, 0);
        x.setHour(47, 33, 0);
        x.setGround(60, 60, false);
        Check.is("16: at first", x.hour(), 0);
        x.pass(1);
        Check.is("16: then", x.hour(), 1);
        Check.is("17: rain", x.water(1), 2);
        Check.is("17: sea", x.water(0), 0);
        Check.is("18: land", x.level(60), 62);
        Check.is("18: sea below its ground", x.level(0), 4);
        x.pass(44);
        Check.is("18: sea of hour 45, below its ground", x.level(0), 4);
        x.pass(1);
        Check.is("18: sea of hour 46", x.level(0), 20);
        Check.is("18: another one", x.level(9), 20);
        x.pass(1);
        Check.is("18: sea of hour 47", x.level(0), 33);
        x.pass(1);
        Check.is("18: sea behind that", x.level(0), 33);
        Check.is("18: last cell", x.level(63), x.water(63));
    }

    private static void flowsFromAndToTheSea() {
        Stormcellar x = Coasts.pit(40, 40, 0, 0);
        int[] due = {10, 17, 13, 10};
        int[] come = {10, 17, 17, 17};
        int[] gone = {0, 0, 4, 7};
        for (int hour = 0; hour < 4; hour++) {
            x.pass(1);
            Check.is("flows: water behind hour " + hour, x.water(1), due[hour]);
            Check.is("35: behind hour " + hour, x.come(), come[hour]);
            Check.is("36: behind hour " + hour, x.gone(), gone[hour]);
        }
        Check.is("flows: rock stays dry", x.water(2), 0);
        Stormcellar little = Coasts.pit(3, 4);
        little.pass(1);
        Check.is("flows: a quarter of 3 is nothing", little.water(1), 0);
        little.pass(1);
        Check.is("flows: a quarter of 4", little.water(1), 1);
        Stormcellar over = Coasts.pit(67);
        over.pass(1);
        Check.is("flows: the pit", over.water(1), 16);
        Check.is("flows: over rock, 7 above it", over.water(8), 1);
        Check.is("flows: no farther in one hour", over.water(16), 0);
    }

    private static void flowsOnLand() {
        int[] falling = {20, 10, 0};
        int[] rising = {0, 10, 20};
        int[][] lines = {{1, 2, 3}, {9, 17, 25}, {54, 62, 63}};
        for (int[] line : lines) {
            for (int turn = 0; turn < 2; turn++) {
                Stormcellar x = Coasts.basin(line, turn == 0 ? falling : rising);
                x.setHour(0, 0, 7);
                x.pass(1);
                Check.is("flows: all at once, high", x.water(line[turn == 0 ? 0 : 2]), 6);
                Check.is("flows: all at once, middle", x.water(line[1]), 7);
                Check.is("flows: all at once, low", x.water(line[turn == 0 ? 2 : 0]), 8);
                Check.is("35: rain on land alone", x.come(), 21);
                Check.is("36: nothing is gone", x.gone(), 0);
            }
        }
        Stormcellar first = Coasts.basin(new int[] {0, 1}, new int[] {10, 0});
        first.setHour(0, 0, 9);
        first.pass(1);
        Check.is("flows: from the first cell", first.water(0), 7);
        Check.is("flows: to its neighbour", first.water(1), 11);
        Stormcellar two = Coasts.basin(new int[] {1, 2}, new int[] {10, 0});
        two.setHour(0, 0, 8);
        int[] high = {6, 5, 4, 4};
        for (int hour = 0; hour < 4; hour++) {
            two.pass(1);
            Check.is("flows: high cell behind hour " + hour, two.water(1), high[hour]);
            Check.is("flows: low cell behind hour " + hour, two.water(2), 16 - high[hour]);
        }
        Stormcellar edge = Coasts.basin(new int[] {7, 8}, new int[] {30, 0});
        edge.setHour(0, 0, 9);
        edge.pass(1);
        Check.is("flows: 7 and 8 are no neighbours", edge.water(8), 9);
    }

    private static void flowsOverHighSea() {
        Stormcellar x = Coasts.pit(40);
        x.setGround(0, 30, true);
        x.pass(1);
        Check.is("flows: over the ground of the sea", x.water(1), 2);
        Stormcellar y = Coasts.pit(40);
        y.setGround(0, 50, true);
        y.pass(1);
        Check.is("flows: ground above the sea gives nothing", y.water(1), 0);
        Stormcellar z = Coasts.basin(new int[] {1}, new int[] {40});
        z.setGround(0, 44, true);
        z.setHour(0, 10, 8);
        z.pass(1);
        Check.is("flows: onto high sea", z.water(1), 7);
        Check.is("36: to high sea", z.gone(), 1);
        Stormcellar seas = new Stormcellar();
        for (int cell = 0; cell < 64; cell++) {
            seas.setGround(cell, cell % 7 * 9, true);
        }
        seas.setHour(0, 30, 9);
        seas.addDike(0, false, 0, 2);
        seas.addDike(5, false, 0, 2);
        seas.pass(1);
        Check.is("35: nothing from sea to sea", seas.come(), 0);
        Check.is("36: nothing from sea to sea", seas.gone(), 0);
        Check.is("21: equal seas", seas.wear(0), 0);
        Check.is("21: unequal grounds of sea press", seas.wear(1), 1);
    }

    private static void dikesThatOverflow() {
        Stormcellar x = Coasts.pit(40, 40, 40);
        x.addDike(0, false, 20, 10);
        x.pass(1);
        Check.is("21: by what flowed", x.wear(0), 5);
        Check.isChar("19: it stands", x.dike(0), '-');
        Check.noElement("20: not broken", () -> x.brokenAt(0));
        x.pass(1);
        Check.is("21: at its strength", x.wear(0), 10);
        Check.isChar("19: it overflowed", x.dike(0), 'o');
        Check.is("20: in hour 1", x.brokenAt(0), 1);
        Check.is("flows: over the crest", x.water(1), 10);
        x.pass(1);
        Check.is("flows: through a broken dike", x.water(1), 17);
        Check.is("21: no wear when broken", x.wear(0), 10);
        Check.is("20: still hour 1", x.brokenAt(0), 1);

        Stormcellar strong = Coasts.pit(40, 40, 40);
        strong.addDike(0, false, 20, 11);
        strong.pass(2);
        Check.isChar("19: one below its strength", strong.dike(0), '-');
        strong.pass(1);
        Check.is("21: above its strength", strong.wear(0), 15);
        Check.is("20: in hour 2", strong.brokenAt(0), 2);

        Stormcellar low = Coasts.pit(80);
        low.setGround(1, 44, false);
        low.addDike(0, false, 20, 99);
        low.pass(1);
        Check.is("flows: the ground is above the crest", low.water(1), 9);

        Stormcellar below = Coasts.basin(new int[] {10, 18}, new int[] {0, 20});
        below.setHour(0, 0, 9);
        below.addDike(10, true, 21, 4);
        below.pass(1);
        Check.is("flows: up over a lower dike", below.water(10), 11);
        Check.is("21: flow to the cell above", below.wear(0), 2);
    }

    private static void dikesThatArePressed() {
        Stormcellar x = Coasts.pit(6, 6, 6, 6, 6, 6, 6, 6, 6, 6, 6, 6);
        x.addDike(0, false, 20, 11);
        x.pass(10);
        Check.is("21: by 1 an hour", x.wear(0), 10);
        Check.isChar("19: it stands", x.dike(0), '-');
        x.pass(1);
        Check.isChar("19: it was pressed", x.dike(0), 'p');
        Check.is("20: in hour 10", x.brokenAt(0), 10);
        Check.is("flows: none in that hour yet", x.water(1), 0);
        x.pass(1);
        Check.is("flows: then", x.water(1), 1);

        Stormcellar apart = Coasts.basin(new int[] {10, 18, 19, 12, 34, 42},
                new int[] {0, 6, 13, 40, 0, 6});
        apart.addDike(34, true, 60, 99);
        apart.addDike(10, true, 60, 11);
        apart.addDike(18, false, 60, 13);
        apart.addDike(10, false, 60, 99);
        apart.addDike(11, false, 60, 40);
        apart.pass(3);
        Check.is("21: the cells beside it do not count", apart.wear(0), 0);
        Check.is("21: pressed from below", apart.wear(1), 3);
        Check.is("21: pressed from the right", apart.wear(2), 3);
        Check.is("21: by as much as the high ground", apart.wear(3), 3);
        Check.is("21: not by half", apart.wear(4), 0);
        Stormcellar one = Coasts.pit(24, 24, 24);
        one.addDike(0, false, 20, 3);
        one.pass(3);
        Check.isChar("19: a flow of 1 is a flow", one.dike(0), 'o');
        Stormcellar strong = Coasts.pit(24);
        strong.addDike(0, false, 20, 99);
        strong.pass(1);
        Check.is("21: by a flow of 1", strong.wear(0), 1);

        Stormcellar half = Coasts.pit(5, 6);
        half.addDike(0, false, 20, 11);
        half.pass(1);
        Check.is("21: half of its strength is not more", half.wear(0), 0);
        half.pass(1);
        Check.is("21: more than half", half.wear(0), 1);

        Stormcellar little = Coasts.pit(23);
        little.addDike(0, false, 20, 2);
        little.pass(1);
        Check.is("21: a flow rounded down to nothing", little.wear(0), 1);

        Stormcellar behind = Coasts.pit(80, 0);
        behind.addDike(0, false, 20, 20);
        behind.pass(2);
        Check.is("21: pressed from the land", behind.wear(0), 16);
        Check.is("flows: held behind it", behind.water(1), 15);

        Stormcellar before = Coasts.pit(12);
        before.setGround(2, 0, true);
        before.addDike(0, false, 99, 20);
        before.pass(1);
        Check.is("21: by the levels ahead of the flows", before.wear(0), 1);
        Check.is("flows: from the other side", before.water(1), 3);
    }

    private static void power() {
        Stormcellar x = Coasts.flat(3, 1);
        x.addStation(9);
        x.pass(1);
        Check.isTrue("22: at 3", x.hasPower(0));
        x.pass(1);
        Check.isFalse("22: at 4", x.hasPower(0));

        Stormcellar y = Coasts.pit(40);
        y.addStation(1);
        y.addStation(2);
        y.addStation(0);
        y.pass(6);
        Check.is("22: the water is back at 3", y.water(1), 3);
        Check.isFalse("22: it gets none again", y.hasPower(0));
        Check.isTrue("22: another one has it", y.hasPower(1));
        Check.isTrue("22: no water on sea", y.hasPower(2));

        Stormcellar z = Coasts.flat(4);
        z.addStation(9);
        z.addPump(9, 20, 0);
        z.turn(0, true);
        z.pass(1);
        Check.is("6: the pump stands still in that hour", z.water(9), 4);
        Check.isFalse("22: before the pumps", z.hasPower(0));

        Stormcellar kept = Coasts.flat(3, 3, 3);
        kept.addStation(9);
        kept.addPump(9, 20, 0);
        kept.turn(0, true);
        kept.pass(1);
        Check.is("6: it takes all the water", kept.water(9), 0);
        kept.pass(1);
        Check.isTrue("22: pumped dry in each hour", kept.hasPower(0));
    }

    private static void pumps() {
        Stormcellar x = Coasts.flat(3);
        x.addStation(63);
        x.addPump(9, 2, 0);
        x.addPump(9, 2, 0);
        x.addPump(9, 2, 0);
        x.addPump(20, 1, 0);
        x.turn(0, true);
        x.turn(1, true);
        x.turn(3, true);
        x.pass(1);
        Check.is("6: one behind the other", x.water(9), 0);
        Check.is("6: its rate", x.water(20), 2);
        Check.is("36: by pumps", x.gone(), 4);
        Check.is("35: by rain", x.come(), 192);
        Stormcellar two = Coasts.pit(40);
        two.setHour(0, 40, 2);
        two.addStation(1);
        two.addStation(63);
        two.addPump(20, 1, 0);
        two.addPump(21, 1, 1);
        two.addSensor(20, 1, 1, 0);
        two.addSensor(21, 1, 1, 1);
        two.turn(0, true);
        two.turn(1, true);
        two.pass(1);
        Check.is("6: its station has no power", two.water(20), 2);
        Check.is("6: its station has power", two.water(21), 1);
        Check.noElement("7: its station has no power", () -> two.newsAt(0));
        Check.is("7: its station has power", two.newsAt(1), 1);
        Stormcellar y = Coasts.flat(3);
        y.setGround(0, 0, true);
        y.setHour(0, 3, 3);
        y.addStation(63);
        y.addPump(0, 20, 0);
        y.turn(0, true);
        y.pass(1);
        Check.is("36: no water on sea", y.gone(), 0);
    }

    private static void sensors() {
        Stormcellar x = Coasts.flat(3);
        x.addStation(63);
        x.addPump(9, 3, 0);
        x.turn(0, true);
        x.addSensor(9, 1, 1, 0);
        x.addSensor(10, 3, 4, 0);
        x.addSensor(11, 4, 1, 0);
        Check.noElement("23: ahead of the storm", () -> x.newsAt(1));
        x.pass(1);
        Check.noElement("23: behind the pumps", () -> x.newsAt(0));
        Check.is("23: at its depth", x.newsAt(1), 4);
        Check.noElement("23: below its depth", () -> x.newsAt(2));
        for (int hour = 1; hour < 4; hour++) {
            Check.isFalse("24: not yet", x.isKnown());
            x.pass(1);
            Check.is("23: noticed once", x.newsAt(1), 4);
        }
        Check.isTrue("24: at the beginning of hour 4", x.isKnown());
        x.pass(1);
        Check.isTrue("24: from then on", x.isKnown());

        Stormcellar dark = Coasts.flat(4);
        dark.addStation(63);
        dark.addSensor(9, 1, 1, 0);
        dark.pass(3);
        Check.noElement("23: without power", () -> dark.newsAt(0));
        Check.isFalse("24: no news", dark.isKnown());

        Stormcellar late = Coasts.flat(1, 1);
        late.addStation(63);
        late.addSensor(9, 2, 1, 0);
        late.addSensor(9, 1, 9, 0);
        late.pass(2);
        Check.is("23: in hour 1", late.newsAt(0), 2);
        Check.is("23: may still come", late.newsAt(1), 9);
        Check.isTrue("24: any news", late.isKnown());
    }
}
