/** The terms: ground, dikes, and an hour from 1 to 7; a test for each sentence with an edge. */
public final class HourTest {
    public static void main(String[] args) {
        groundNeighboursAreBesideOrAbove();
        groundNeighboursDoNotWrap();
        groundSeaAsHighAsItsGround();
        dikesStandAboveTheGreaterGround();
        dikesThatAreBrokenDoNotStand();
        hour1ChoicesAreDoneAlready();
        hour2RainOnLandAlone();
        hour2RainOfThisHour();
        hour3AQuarterRoundedDown();
        hour3ALevelThatIsNotHigher();
        hour3LandGivesAQuarterOfItsWater();
        hour3AllAtOnce();
        hour3FromTheSeaAndToIt();
        hour3NothingBetweenSeas();
        hour4AFlowOf1AtLeast();
        hour4MoreThanHalfOfTheStrength();
        hour4AsGreatAsTheStrength();
        hour4ByWhatItBreaks();
        hour4OneThatIsBrokenDoesNotWear();
        hour4ByTheLevelsOf3();
        hour5BehindTheFlows();
        hour5AheadOfThePumps();
        hour5NoneAgain();
        hour6ItsRateOrAllTheWater();
        hour6AsTheirNumbersRise();
        hour6OnAndWithPower();
        hour7AtLeastItsDepth();
        hour7BehindThePumps();
        hour7OnlyWithPower();
        hour7NoticedOnce();
        hour8ItBecomes1More();
        Check.end();
    }

    private static int highFlow(int high, int low) {
        Stormcellar x = Coasts.basin(new int[] {high, low}, new int[] {40, 0});
        x.setHour(0, 0, 8);
        x.pass(1);
        Check.is("ground: what " + high + " gave", x.water(low) - 8, 8 - x.water(high));
        return x.water(low) - 8;
    }

    private static void groundNeighboursAreBesideOrAbove() {
        int pairs = 0;
        for (int high = 0; high < 64; high++) {
            for (int low = 0; low < 64; low++) {
                if (high == low) {
                    continue;
                }
                int rows = Math.abs(high / 8 - low / 8);
                int columns = Math.abs(high % 8 - low % 8);
                boolean isBeside = rows + columns == 1;
                Check.is("ground: from " + high + " to " + low, highFlow(high, low), isBeside ? 2 : 0);
                pairs += isBeside ? 1 : 0;
            }
        }
        Check.is("ground: pairs, both ways", pairs, 224);
    }

    private static void groundNeighboursDoNotWrap() {
        for (int row = 0; row < 7; row++) {
            Check.is("ground: a row's end and the next one's beginning", highFlow(8 * row + 7, 8 * row + 8), 0);
            Check.is("ground: a row's beginning and the last one's end", highFlow(8 * row + 8, 8 * row + 7), 0);
        }
        for (int i = 0; i < 8; i++) {
            Check.is("ground: a row's end and its beginning", highFlow(8 * i + 7, 8 * i), 0);
            Check.is("ground: the last row and the first one", highFlow(56 + i, i), 0);
            Check.is("ground: the first row and the last one", highFlow(i, 56 + i), 0);
        }
        Check.is("ground: the last cell and the first one", highFlow(63, 0), 0);
    }

    private static int intoThePit(int seaGround, int sea) {
        Stormcellar x = Coasts.pit(sea);
        x.setGround(0, seaGround, true);
        x.pass(1);
        return x.water(1);
    }

    private static void groundSeaAsHighAsItsGround() {
        Check.is("ground: the sea is 1 lower", intoThePit(20, 19), 0);
        Check.is("ground: the sea is as high", intoThePit(20, 20), 0);
        Check.is("ground: the sea is 3 higher", intoThePit(20, 23), 0);
        Check.is("ground: the sea is 4 higher", intoThePit(20, 24), 1);
        Check.is("ground: no ground", intoThePit(0, 24), 6);
        Check.is("ground: the highest", intoThePit(60, 80), 5);
    }

    private static int overADike(int crest, int grounds, int sea) {
        Stormcellar x = Coasts.pit(sea);
        x.setGround(1, grounds, false);
        x.addDike(0, false, crest, 99);
        x.pass(1);
        return x.water(1);
    }

    private static void dikesStandAboveTheGreaterGround() {
        Check.is("dikes: lower than the ground", overADike(19, 20, 40), 5);
        Check.is("dikes: as high as the ground", overADike(20, 20, 40), 5);
        Check.is("dikes: 3 higher than the ground", overADike(23, 20, 40), 4);
        Check.is("dikes: 4 higher than the ground", overADike(24, 20, 40), 4);
        Check.is("dikes: 5 higher than the ground", overADike(25, 20, 40), 3);
        Check.is("dikes: 4 lower than the sea", overADike(36, 20, 40), 1);
        Check.is("dikes: 3 lower than the sea", overADike(37, 20, 40), 0);
        Check.is("dikes: as high as the sea", overADike(40, 20, 40), 0);
        Check.is("dikes: higher than the sea", overADike(41, 20, 40), 0);
        Check.is("dikes: a crest of 0", overADike(0, 0, 40), 10);
        Stormcellar low = Coasts.basin(new int[] {9, 10}, new int[] {20, 0});
        low.setHour(0, 0, 9);
        low.addDike(9, false, 19, 99);
        low.pass(1);
        Check.is("dikes: lower than the ground of the giver", low.water(10), 11);
        Check.is("21: it wears all the same", low.wear(0), 2);
    }

    private static void dikesThatAreBrokenDoNotStand() {
        Stormcellar x = Coasts.pit(40, 40, 40);
        x.addDike(0, false, 30, 2);
        x.pass(1);
        Check.is("dikes: it stands in the hour in which it breaks", x.water(1), 2);
        Check.isChar("19: broken", x.dike(0), 'o');
        x.pass(1);
        Check.is("dikes: it stands no more", x.water(1), 2 + 9);
        x.pass(46);
        Check.isChar("dikes: it stays so", x.dike(0), 'o');
    }

    private static void hour1ChoicesAreDoneAlready() {
        Stormcellar x = Coasts.pit(40, 40);
        x.addDike(0, false, 20, 99);
        x.raise(0, 10);
        x.pass(1);
        Check.is("hour 1: raised in this hour", x.water(1), 2);
        x.cut(0);
        Check.is("hour 1: nothing flows at once", x.water(1), 2);
        x.pass(1);
        Check.is("hour 1: cut in this hour", x.water(1), 2 + 9);
    }

    private static void hour2RainOnLandAlone() {
        for (int seas = 0; seas <= 64; seas++) {
            Stormcellar x = Coasts.flat(9);
            for (int cell = 0; cell < seas; cell++) {
                x.setGround(cell, 60, true);
            }
            x.pass(1);
            Check.is("hour 2: rain beside so many seas", x.come(), 9 * (64 - seas));
            for (int cell = 0; cell < 64; cell++) {
                Check.is("hour 2: rain on " + cell, x.water(cell), cell < seas ? 0 : 9);
            }
        }
    }

    private static void hour2RainOfThisHour() {
        for (int hour = 0; hour < 48; hour++) {
            Stormcellar x = new Stormcellar();
            x.setHour(hour, 0, 5);
            for (int now = 0; now < 48; now++) {
                Check.is("hour 2: ahead of the hour " + now, x.water(9), now > hour ? 5 : 0);
                x.pass(1);
            }
            Check.is("hour 2: in the end", x.water(9), 5);
        }
    }

    private static void hour3AQuarterRoundedDown() {
        for (int sea = 0; sea <= 60; sea++) {
            Stormcellar x = Coasts.pit(sea);
            x.pass(1);
            Check.is("hour 3: a quarter of " + sea, x.water(1), sea / 4);
        }
        for (int sea = 20; sea <= 60; sea++) {
            Check.is("hour 3: a quarter of " + sea + " above 20", overADike(20, 0, sea), (sea - 20) / 4);
        }
        for (int rain = 0; rain <= 9; rain++) {
            Stormcellar x = Coasts.basin(new int[] {1}, new int[] {0});
            x.setGround(0, 0, true);
            x.setHour(0, 40, rain);
            x.pass(1);
            Check.is("hour 3: a quarter above the water of " + rain, x.water(1), rain + (40 - rain) / 4);
        }
    }

    private static void hour3ALevelThatIsNotHigher() {
        for (int lower = -1; lower <= 1; lower++) {
            Stormcellar x = Coasts.basin(new int[] {9, 10}, new int[] {20, 20 + 4 * lower});
            x.setHour(0, 0, 9);
            x.pass(1);
            Check.is("hour 3: from a level that is higher by " + -4 * lower, x.water(10), 9 - lower);
        }
        Stormcellar dry = Coasts.basin(new int[] {9, 10}, new int[] {60, 0});
        dry.pass(48);
        Check.is("hour 3: nothing from dry land", dry.water(10), 0);
        Check.is("hour 3: no water comes", dry.come(), 0);
        Check.is("hour 3: as high as what stands between", overADike(30, 0, 30), 0);
    }

    private static void hour3LandGivesAQuarterOfItsWater() {
        for (int rain = 0; rain <= 9; rain++) {
            Stormcellar x = Coasts.flat(rain);
            x.setGround(9, 60, false);
            x.pass(1);
            Check.is("hour 3: to four sides", x.water(9), rain - 4 * (rain / 4));
            Check.is("hour 3: to one of them", x.water(10), rain + rain / 4);
        }
    }

    /** Each cell gives what it gets; one behind the other they would give more and more. */
    private static void hour3AllAtOnce() {
        int[] line = {0, 1, 2, 3, 4, 5, 6, 7, 15};
        int[] falling = {56, 49, 42, 35, 28, 21, 14, 7, 0};
        int[] rising = {0, 7, 14, 21, 28, 35, 42, 49, 56};
        for (int turn = 0; turn < 2; turn++) {
            Stormcellar x = Coasts.basin(line, turn == 0 ? falling : rising);
            x.setHour(0, 0, 5);
            x.pass(1);
            for (int i = 0; i < 9; i++) {
                boolean isHighest = i == (turn == 0 ? 0 : 8);
                boolean isLowest = i == (turn == 0 ? 8 : 0);
                Check.is("hour 3: cell " + line[i], x.water(line[i]), isHighest ? 4 : isLowest ? 6 : 5);
            }
        }
    }

    private static void hour3FromTheSeaAndToIt() {
        Stormcellar x = Coasts.pit(40, 0);
        x.pass(1);
        Check.is("35: from the sea", x.come(), 10);
        Check.is("36: nothing yet", x.gone(), 0);
        x.pass(1);
        Check.is("35: nothing more", x.come(), 10);
        Check.is("36: to the sea", x.gone(), 2);
        Check.is("hour 3: what is left", x.water(1), 8);
        Stormcellar last = Coasts.basin(new int[] {62}, new int[] {0});
        last.setGround(63, 0, true);
        last.setHour(0, 60, 0);
        last.pass(1);
        Check.is("35: from the last cell", last.come(), 15);
    }

    private static void hour3NothingBetweenSeas() {
        for (int ground = 0; ground <= 60; ground += 10) {
            for (int sea = 0; sea <= 80; sea += 20) {
                Stormcellar x = new Stormcellar();
                for (int cell = 0; cell < 64; cell++) {
                    x.setGround(cell, (cell + cell / 8) % 2 == 0 ? ground : 30, true);
                }
                x.setHour(0, sea, 9);
                x.addDike(9, false, 0, 99);
                x.pass(1);
                Check.is("35: between seas", x.come(), 0);
                Check.is("36: between seas", x.gone(), 0);
            }
        }
    }

    private static void hour4AFlowOf1AtLeast() {
        for (int sea = 20; sea <= 60; sea++) {
            Stormcellar x = Coasts.pit(sea);
            x.addDike(0, false, 20, 99);
            x.pass(1);
            int flow = (sea - 20) / 4;
            int press = sea > 49 ? 1 : 0;
            Check.is("hour 4: by the flow at " + sea, x.wear(0), flow >= 1 ? flow : press);
        }
        Stormcellar little = Coasts.pit(23);
        little.addDike(0, false, 20, 46);
        little.addDike(40, false, 99, 46);
        little.setGround(40, 37, false);
        little.pass(1);
        Check.is("hour 4: less than 1 is no flow, and 23 is not more than 23", little.wear(0), 0);
        Check.is("hour 4: 23 of rock is not more than 23", little.wear(1), 0);
    }

    /** Two dry grounds that differ by so much, with a dike that nothing comes over. */
    private static int pressedBy(int apart, int strength, boolean isLower) {
        int other = isLower ? 17 : 10;
        Stormcellar x = Coasts.basin(new int[] {9, other}, new int[] {isLower ? apart : 0, isLower ? 0 : apart});
        x.addDike(9, isLower, 99, strength);
        x.pass(1);
        return x.wear(0);
    }

    private static void hour4MoreThanHalfOfTheStrength() {
        for (int strength = 2; strength <= 99; strength++) {
            int half = strength / 2;
            Check.is("hour 4: half of " + strength, pressedBy(half, strength, false), 0);
            Check.is("hour 4: half of " + strength + ", from above", pressedBy(half, strength, true), 0);
            Check.is("hour 4: more than half of " + strength, pressedBy(half + 1, strength, false), 1);
            Check.is("hour 4: more than half of " + strength + ", from above", pressedBy(half + 1, strength, true), 1);
        }
        Check.is("hour 4: by 1, however much more", pressedBy(60, 3, false), 1);
    }

    private static void hour4AsGreatAsTheStrength() {
        for (int strength = 2; strength <= 12; strength++) {
            Stormcellar x = Coasts.pit(60);
            x.addDike(0, false, 20, strength);
            x.pass(1);
            Check.is("hour 4: by a flow of 10", x.wear(0), 10);
            Check.isChar("hour 4: 10 of " + strength, x.dike(0), strength <= 10 ? 'o' : '-');
        }
        for (int hours = 4; hours <= 6; hours++) {
            Stormcellar y = Coasts.pit(9, 9, 9, 9, 9, 9);
            y.addDike(0, false, 20, 5);
            y.pass(hours);
            Check.is("hour 4: by 1 an hour", y.wear(0), hours < 5 ? hours : 5);
            Check.isChar("hour 4: " + hours + " of 5", y.dike(0), hours < 5 ? '-' : 'p');
        }
    }

    private static void hour4ByWhatItBreaks() {
        Stormcellar x = Coasts.pit(60, 16);
        x.addDike(0, false, 20, 11);
        x.pass(2);
        Check.is("hour 4: 10 by the flow, 1 by the press", x.wear(0), 11);
        Check.isChar("hour 4: the press broke it", x.dike(0), 'p');
        Check.is("20: in the hour 1", x.brokenAt(0), 1);
        Stormcellar y = Coasts.pit(16, 60);
        y.addDike(0, false, 20, 11);
        y.pass(2);
        Check.is("hour 4: 1 by the press, 10 by the flow", y.wear(0), 11);
        Check.isChar("hour 4: the flow broke it", y.dike(0), 'o');
        Check.is("20: in the hour 1", y.brokenAt(0), 1);
    }

    private static void hour4OneThatIsBrokenDoesNotWear() {
        Stormcellar x = Coasts.pit(60, 60, 60);
        x.addDike(0, false, 20, 10);
        x.addDike(8, true, 20, 99);
        x.cut(1);
        x.pass(3);
        Check.is("hour 4: broken by the flow", x.wear(0), 10);
        Check.is("20: the hour stays", x.brokenAt(0), 0);
        Check.is("hour 4: cut", x.wear(1), 0);
        Check.isChar("hour 4: the cause stays", x.dike(1), 'c');
    }

    private static void hour4ByTheLevelsOf3() {
        Stormcellar rain = Coasts.basin(new int[] {9, 10}, new int[] {0, 3});
        rain.setGround(10, 3, true);
        rain.setHour(0, 0, 6);
        rain.addDike(9, false, 99, 4);
        rain.pass(1);
        Check.is("hour 4: behind the rain, 6 and 3", rain.wear(0), 1);
        Stormcellar even = Coasts.basin(new int[] {9, 10}, new int[] {0, 3});
        even.setGround(10, 3, true);
        even.setHour(0, 0, 3);
        even.addDike(9, false, 99, 2);
        even.pass(1);
        Check.is("hour 4: behind the rain, 3 and 3", even.wear(0), 0);
        Stormcellar before = Coasts.pit(40);
        before.addDike(1, false, 99, 98);
        before.setGround(2, 50, false);
        before.pass(1);
        Check.is("17: 10 flowed in", before.water(1), 10);
        Check.is("hour 4: ahead of the flows, 0 and 50", before.wear(0), 1);
    }

    private static void hour5BehindTheFlows() {
        Stormcellar out = Coasts.basin(new int[] {9, 10}, new int[] {40, 0});
        out.setHour(0, 0, 4);
        out.addStation(9);
        out.addStation(10);
        out.pass(1);
        Check.is("17: 4 rain, 1 flowed off", out.water(9), 3);
        Check.isTrue("hour 5: 3 behind the flows", out.hasPower(0));
        Check.isFalse("hour 5: 5 behind the flows", out.hasPower(1));
        Stormcellar in = Coasts.pit(15, 16);
        in.addStation(1);
        in.pass(1);
        Check.is("17: a quarter of 15", in.water(1), 3);
        Check.isTrue("hour 5: 3 by a flow", in.hasPower(0));
        in.pass(1);
        Check.is("17: a quarter of 13 more", in.water(1), 6);
        Check.isFalse("hour 5: 6 by a flow", in.hasPower(0));
        Stormcellar four = Coasts.pit(16);
        four.addStation(1);
        four.pass(1);
        Check.isFalse("hour 5: 4 by a flow", four.hasPower(0));
    }

    private static void hour5AheadOfThePumps() {
        for (int rain = 3; rain <= 4; rain++) {
            Stormcellar x = Coasts.flat(rain);
            x.addStation(9);
            x.addPump(9, 20, 0);
            x.turn(0, true);
            x.pass(1);
            Check.is("hour 5: a pump on its own station's cell", x.water(9), rain == 3 ? 0 : 4);
        }
    }

    private static void hour5NoneAgain() {
        Stormcellar x = Coasts.flat(4, 0, 3);
        x.addStation(9);
        x.addStation(63);
        x.setGround(63, 60, true);
        x.addPump(9, 4, 1);
        x.addPump(20, 4, 0);
        x.turn(0, true);
        x.turn(1, true);
        x.pass(1);
        Check.is("17: pumped dry", x.water(9), 0);
        Check.isFalse("hour 5: it had 4", x.hasPower(0));
        Check.is("hour 5: what it drives stands still", x.water(20), 4);
        for (int hour = 1; hour < 48; hour++) {
            x.pass(1);
            Check.isFalse("hour 5: none again", x.hasPower(0));
            Check.isTrue("hour 5: the other one has it", x.hasPower(1));
        }
    }

    private static void hour6ItsRateOrAllTheWater() {
        for (int rain = 0; rain <= 3; rain++) {
            for (int rate = 1; rate <= 4; rate++) {
                Stormcellar x = Coasts.flat(rain);
                x.addStation(63);
                x.addPump(9, rate, 0);
                x.turn(0, true);
                x.pass(1);
                int taken = rate < rain ? rate : rain;
                Check.is("hour 6: " + rate + " of " + rain, x.water(9), rain - taken);
                Check.is("36: " + rate + " of " + rain, x.gone(), taken);
                Check.isTrue("39: " + rate + " of " + rain, x.isConsistent());
            }
        }
    }

    private static void hour6AsTheirNumbersRise() {
        for (int pumps = 1; pumps <= 8; pumps++) {
            Stormcellar x = Coasts.pit(24);
            x.addStation(63);
            for (int i = 0; i < pumps; i++) {
                x.addPump(1, 1, 0);
                x.turn(i, true);
            }
            x.pass(1);
            Check.is("hour 6: 6 water and so many pumps", x.water(1), pumps < 6 ? 6 - pumps : 0);
            Check.is("36: so many pumps", x.gone(), pumps < 6 ? pumps : 6);
        }
    }

    private static void hour6OnAndWithPower() {
        for (int kind = 0; kind < 4; kind++) {
            Stormcellar x = Coasts.flat(3);
            x.addStation(63);
            x.addPump(40, 1, 0);
            x.turn(0, kind % 2 == 1);
            if (kind >= 2) {
                x.turn(0, false);
            }
            x.pass(1);
            Check.is("hour 6: turned on last or not", x.water(40), kind == 1 ? 2 : 3);
        }
        Stormcellar two = Coasts.flat(4);
        two.setGround(1, 60, true);
        two.addStation(1);
        two.addStation(63);
        two.addPump(40, 1, 0);
        two.addPump(42, 1, 1);
        two.turn(0, true);
        two.turn(1, true);
        two.pass(1);
        Check.is("hour 6: its station has power", two.water(40), 3);
        Check.is("hour 6: its station has lost it in this hour", two.water(42), 4);
        Stormcellar sea = Coasts.flat(3);
        sea.setGround(9, 0, true);
        sea.setHour(0, 3, 3);
        sea.addStation(63);
        sea.addPump(9, 20, 0);
        sea.turn(0, true);
        sea.pass(1);
        Check.is("hour 6: nothing from the sea", sea.gone(), 0);
        Check.is("18: the sea stays", sea.level(9), 0);
    }

    private static void hour7AtLeastItsDepth() {
        for (int water = 0; water <= 20; water++) {
            Stormcellar x = Coasts.pit(4 * water);
            x.addStation(63);
            for (int i = 0; i < 8; i++) {
                x.addSensor(1, 1 + (water + i) % 20, 1, 0);
            }
            x.pass(1);
            for (int i = 0; i < 8; i++) {
                int sensor = i;
                if (water >= 1 + (water + i) % 20) {
                    Check.is("hour 7: with " + water + " water", x.newsAt(i), 1);
                } else {
                    Check.noElement("hour 7: with " + water + " water", () -> x.newsAt(sensor));
                }
            }
        }
        Stormcellar sea = Coasts.flat(3);
        sea.setGround(9, 0, true);
        sea.setHour(0, 80, 3);
        sea.addStation(63);
        sea.addSensor(9, 1, 1, 0);
        sea.pass(48);
        Check.noElement("hour 7: no water on sea", () -> sea.newsAt(0));
    }

    private static void hour7BehindThePumps() {
        Stormcellar x = Coasts.flat(3);
        x.addStation(63);
        x.addPump(9, 2, 0);
        x.addSensor(9, 2, 1, 0);
        x.addSensor(9, 1, 1, 0);
        x.turn(0, true);
        x.pass(1);
        Check.noElement("hour 7: 1 behind the pump", () -> x.newsAt(0));
        Check.is("hour 7: 1 is enough for it", x.newsAt(1), 1);
    }

    private static void hour7OnlyWithPower() {
        for (int rain = 3; rain <= 4; rain++) {
            Stormcellar x = Coasts.flat(rain);
            x.addStation(9);
            x.addSensor(20, 1, 1, 0);
            x.pass(2);
            if (rain == 3) {
                Check.is("hour 7: power up to 3", x.newsAt(0), 1);
            } else {
                Check.noElement("hour 7: lost in the same hour", () -> x.newsAt(0));
            }
        }
        Stormcellar late = Coasts.flat(1, 9);
        late.addStation(9);
        late.addSensor(20, 1, 5, 0);
        late.pass(2);
        Check.isFalse("22: lost", late.hasPower(0));
        Check.is("hour 7: noticed before", late.newsAt(0), 5);
        late.pass(3);
        Check.isTrue("24: the news comes without power", late.isKnown());
    }

    private static void hour7NoticedOnce() {
        Stormcellar x = Coasts.flat(1, 1, 1);
        x.addStation(63);
        x.addSensor(9, 1, 9, 0);
        x.addSensor(9, 2, 9, 0);
        x.addSensor(9, 3, 9, 0);
        x.pass(48);
        for (int i = 0; i < 3; i++) {
            Check.is("hour 7: as it was noticed first", x.newsAt(i), 9 + i);
        }
    }

    private static void hour8ItBecomes1More() {
        Stormcellar x = Coasts.flat(1);
        x.addStation(63);
        x.addSensor(63, 1, 1, 0);
        Check.isFalse("hour 8: in the hour 0", x.isKnown());
        Check.is("hour 8: over", x.pass(1), 1);
        Check.isTrue("hour 8: the news is there at the beginning of the hour 1", x.isKnown());
    }
}
