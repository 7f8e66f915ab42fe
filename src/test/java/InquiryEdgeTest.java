/** Promises 31 to 39, and the terms of choices: the storm run again; a test for each sentence with an edge. */
public final class InquiryEdgeTest {
    public static void main(String[] args) {
        choicesOfThePresentHour();
        choicesInTheirHoursAndOrder();
        choicesThroughAsManyHours();
        choicesLeftOutOfABrokenDike();
        choicesLeftOutWithoutNews();
        choicesLeftOutOfAWarnedGroup();
        p33ChoiceFrom0();
        p33EachOf16();
        p34NoChoice();
        p34NoneWithFewer();
        p34TheFewest();
        p34TheFirstOfSeveral();
        p34EachOf16();
        p35From0();
        p36From0();
        p37NoLand();
        p37OneOfEachNumber();
        p37AllButOne();
        p38NoLand();
        p38OfEachNumber();
        p39FromTheBeginningToTheEnd();
        askingChangesNothing();
        the512thCall();
        Check.end();
    }

    /** A group of 16 at the pit, behind a dike that no sea comes over; these seas come from hour 0 on. */
    private static Stormcellar behindADike(int... seas) {
        Stormcellar x = Coasts.pit(seas);
        x.addDike(0, false, 90, 99);
        x.addGroup(1, 16, 0);
        x.addStation(63);
        x.addPump(1, 20, 0);
        x.addShelter(40, 9);
        return x;
    }

    private static void choicesOfThePresentHour() {
        for (int hour = 0; hour <= 48; hour++) {
            Stormcellar x = behindADike(40, 40, 40);
            if (hour > 0) {
                x.pass(hour);
            }
            x.cut(0);
            Check.is("33: what was chosen in this hour has done nothing yet", x.harmWithout(0), 0);
            Check.noElement("34: not the choice of this hour", () -> x.worst());
        }
    }

    private static void choicesInTheirHoursAndOrder() {
        Stormcellar x = behindADike(40);
        x.turn(0, true);
        x.turn(0, false);
        x.turn(0, true);
        x.cut(0);
        x.turn(0, false);
        x.pass(1);
        int[] due = {1, 1, 1, 0, 0};
        for (int i = 0; i < 5; i++) {
            Check.is("33: in their order, without " + i, x.harmWithout(i), due[i]);
        }
        Stormcellar y = behindADike(0, 40, 40, 40);
        y.cut(0);
        y.pass(2);
        y.turn(0, true);
        y.pass(1);
        y.turn(0, false);
        y.pass(1);
        Check.is("29: 1 in the hour 1, when the pump is off", y.harm(), 2);
        Check.is("33: in their hours, without the cut", y.harmWithout(0), 0);
        Check.is("33: in their hours, without the pump", y.harmWithout(1), 1 + 7 + 6);
        Check.is("33: in their hours, without its end", y.harmWithout(2), 1);
    }

    private static void choicesThroughAsManyHours() {
        Stormcellar x = behindADike(40, 40, 40);
        x.addGroup(16, 99, 0);
        x.cut(0);
        x.turn(0, true);
        int[] due = {0, 1, 8, 14};
        for (int hour = 0; hour <= 3; hour++) {
            Check.is("16: the hour", x.hour(), hour);
            Check.is("33: by now", x.harmWithout(1), due[hour]);
            Check.is("33: by now, without the cut", x.harmWithout(0), 0);
            x.pass(1);
        }
        Check.is("29: the pump took all", x.harm(), 0);
    }

    private static void choicesLeftOutOfABrokenDike() {
        Stormcellar x = Coasts.pit(48, 48, 48, 48);
        x.addDike(0, false, 40, 3);
        x.addGroup(1, 16, 0);
        x.raise(0, 10);
        x.pass(2);
        x.raise(0, 1);
        x.cut(0);
        Check.is("33: broken at 1 instead of cut", x.harmWithout(0), 0);
        x.pass(1);
        Check.is("29: 12 water, 3 lost", x.harm(), 3);
        Check.is("33: 2, 2 and 11 water, 6 lost", x.harmWithout(0), 6);
        Check.is("33: without the last raise it is cut as well", x.harmWithout(1), 3);
        Check.is("33: without the cut it stands, with the raise done", x.harmWithout(2), 0);
        Check.is("34: the cut", x.worst(), 2);
    }

    private static void choicesLeftOutWithoutNews() {
        Stormcellar x = Coasts.pit(4);
        x.setHour(3, 0, 9);
        x.setHour(4, 0, 9);
        x.addDike(0, false, 99, 99);
        x.addStation(63);
        x.addSensor(1, 1, 1, 0);
        x.addGroup(27, 32, 0);
        x.addShelter(27, 99);
        x.open(0, true);
        x.cut(0);
        x.pass(1);
        x.warn(0);
        x.pass(4);
        Check.isChar("27: safe by the news that the cut brought", x.state(0), 's');
        Check.is("29: nobody is lost", x.harm(), 0);
        Check.is("33: no news, so no warning: 18 water", x.harmWithout(1), 18);
        Check.is("33: without the warning", x.harmWithout(2), 18);
        Check.noElement("34: each one was good", () -> x.worst());
    }

    /**
     * With the cut, 5 water keeps the first warning off in hour 4; without it the group is on its way then, and the
     * second warning cannot be done. It would keep the group on the rock, where the rain finds it in hour 8.
     */
    private static void choicesLeftOutOfAWarnedGroup() {
        Stormcellar x = Coasts.pit(0, 20, 5, 5, 5);
        x.setHour(0, 0, 1);
        x.setHour(7, 0, 9);
        x.setHour(8, 0, 9);
        x.addDike(0, false, 99, 99);
        Coasts.addNews(x);
        x.addGroup(1, 16, 3);
        x.addShelter(3, 99);
        x.open(0, true);
        x.pass(1);
        x.cut(0);
        x.warn(0);
        x.pass(4);
        Check.is("17: 1 and a quarter of 19", x.water(1), 5);
        Check.isChar("27: the warning did not reach it", x.state(0), 'h');
        Check.is("14: again", x.warn(0), 8);
        x.pass(4);
        Check.isTrue("29: some are lost", x.harm() > 0);
        Check.is("33: safe in hour 6", x.harmWithout(1), 0);
        Check.is("34: the cut", x.worst(), 1);
        Check.is("33: without the first warning", x.harmWithout(2), x.harm());
        Check.is("33: without the second warning", x.harmWithout(3), x.harm());
    }

    private static void p33ChoiceFrom0() {
        Edge.range("33: choice, none yet", Edge.INDEX, 0, -1, Stormcellar::new, (x, choice) -> x.harmWithout(choice));
        for (int choices = 1; choices <= 16; choices++) {
            int number = choices;
            Edge.range("33: choice of " + number, Edge.INDEX, 0, number - 1, () -> Coasts.wholeWithChoices(number),
                    (x, choice) -> x.harmWithout(choice));
        }
        Edge.range("33: choice in the end", Edge.INDEX, 0, 2, () -> Coasts.wholeAt(48),
                (x, choice) -> x.harmWithout(choice));
    }

    /** Sixteen choices, of which this one is the cut; the others open and close the shelter. */
    private static Stormcellar withTheCutAs(int number, int choices) {
        Stormcellar x = behindADike(40, 40);
        for (int i = 0; i < choices; i++) {
            if (i == number) {
                x.cut(0);
            } else {
                x.open(0, i % 2 == 0);
            }
        }
        x.pass(1);
        return x;
    }

    private static void p33EachOf16() {
        for (int cut = 0; cut < 16; cut++) {
            Stormcellar x = withTheCutAs(cut, 16);
            Check.is("29: one is lost", x.harm(), 1);
            for (int i = 0; i < 16; i++) {
                Check.is("33: without " + i + ", cut by " + cut, x.harmWithout(i), i == cut ? 0 : 1);
            }
        }
    }

    private static void p34NoChoice() {
        Edge.refuses("34: a new object", Edge.ELEMENT, Stormcellar::new, x -> x.worst());
        Edge.refuses("34: lost without a choice", Edge.ELEMENT, InquiryEdgeTest::lostWithoutAChoice, x -> x.worst());
    }

    private static Stormcellar lostWithoutAChoice() {
        Stormcellar x = Coasts.deep(20);
        x.addGroup(9, 99, 0);
        x.pass(1);
        Check.isTrue("29: some are lost", x.harm() > 0);
        return x;
    }

    private static void p34NoneWithFewer() {
        Edge.refuses("34: nobody is lost", Edge.ELEMENT, () -> withTheCutAs(16, 16), x -> x.worst());
        Edge.refuses("34: as many without each", Edge.ELEMENT, InquiryEdgeTest::lostAllTheSame, x -> x.worst());
        Edge.refuses("34: more without it", Edge.ELEMENT, InquiryEdgeTest::pumpedDry, x -> x.worst());
    }

    private static Stormcellar lostAllTheSame() {
        Stormcellar x = Coasts.deep(20);
        x.addGroup(9, 99, 0);
        x.addShelter(9, 99);
        x.open(0, true);
        x.open(0, false);
        x.pass(1);
        Check.isTrue("29: some are lost", x.harm() > 0);
        return x;
    }

    private static Stormcellar pumpedDry() {
        Stormcellar x = Coasts.pit(40);
        x.addGroup(1, 16, 0);
        x.addStation(63);
        x.addPump(1, 20, 0);
        x.turn(0, true);
        x.pass(1);
        Check.is("33: one more", x.harmWithout(0), 1);
        return x;
    }

    /** Without the first cut 1 less is lost, without the second one all but that. */
    private static void p34TheFewest() {
        for (int turn = 0; turn < 2; turn++) {
            Stormcellar x = Coasts.pit(40, 40);
            x.setGround(16, 0, true);
            x.setGround(17, 0, false);
            x.addDike(0, false, 99, 99);
            x.addDike(16, false, 99, 99);
            x.addGroup(1, 16, 0);
            x.addGroup(17, 32, 0);
            x.cut(turn);
            x.cut(1 - turn);
            x.pass(1);
            Check.is("29: 1 and 2", x.harm(), 3);
            Check.is("33: without the first cut", x.harmWithout(0), turn == 0 ? 2 : 1);
            Check.is("33: without the second cut", x.harmWithout(1), turn == 0 ? 1 : 2);
            Check.is("34: the fewest", x.worst(), turn == 0 ? 1 : 0);
        }
    }

    private static void p34TheFirstOfSeveral() {
        Stormcellar x = behindADike(40);
        x.open(0, true);
        x.turn(0, true);
        x.turn(0, false);
        x.cut(0);
        x.pass(1);
        Check.is("33: it pumps", x.harmWithout(2), 0);
        Check.is("33: it holds", x.harmWithout(3), 0);
        Check.is("34: the first one of the two", x.worst(), 2);
    }

    private static void p34EachOf16() {
        for (int choices = 1; choices <= 16; choices++) {
            for (int cut = 0; cut < choices; cut++) {
                Check.is("34: " + cut + " of " + choices, withTheCutAs(cut, choices).worst(), cut);
            }
        }
    }

    private static void p35From0() {
        Check.is("35: none at first", Coasts.whole().come(), 0);
        Stormcellar x = new Stormcellar();
        for (int hour = 0; hour < 48; hour++) {
            x.setHour(hour, 80, 9);
        }
        for (int hour = 1; hour <= 48; hour++) {
            x.pass(1);
            Check.is("35: the greatest rain", x.come(), 64L * 9 * hour);
        }
        Check.is("36: nothing went", x.gone(), 0);
        Stormcellar both = Coasts.basin(new int[] {1}, new int[] {0});
        both.setGround(0, 0, true);
        both.setHour(0, 41, 1);
        both.pass(1);
        Check.is("35: 1 by rain and 10 from the sea", both.come(), 11);
    }

    private static void p36From0() {
        Check.is("36: none at first", Coasts.whole().gone(), 0);
        Stormcellar x = Coasts.basin(new int[] {1}, new int[] {40});
        x.setGround(0, 0, true);
        x.setHour(0, 0, 9);
        x.addStation(63);
        x.addPump(1, 3, 0);
        x.turn(0, true);
        x.pass(1);
        Check.is("36: 2 to the sea and 3 by the pump", x.gone(), 5);
        Check.is("17: what is left", x.water(1), 4);
        Check.is("35: by rain alone", x.come(), 9);
    }

    private static Stormcellar allSea(int hours) {
        Stormcellar x = new Stormcellar();
        for (int cell = 0; cell < 64; cell++) {
            x.setGround(cell, 0, true);
        }
        x.setHour(0, 9, 9);
        x.addGroup(9, 9, 0);
        if (hours > 0) {
            x.pass(hours);
        }
        return x;
    }

    private static void p37NoLand() {
        Edge.refuses("37: no land, ahead of the storm", Edge.ARITHMETIC, () -> allSea(0), x -> x.wetShare());
        Edge.refuses("37: no land, in the end", Edge.ARITHMETIC, () -> allSea(48), x -> x.wetShare());
        Stormcellar x = allSea(0);
        x.setGround(63, 0, false);
        Check.isReal("37: a single cell", x.wetShare(), 0.0f);
        x.pass(1);
        Check.isReal("37: a single wet cell", x.wetShare(), 1.0f);
    }

    /** The first of so many land cells, all of them rock but for it, has water from the sea beside it. */
    private static Stormcellar oneWetOf(int land, int sea) {
        Stormcellar x = Coasts.basin(new int[] {0}, new int[] {0});
        for (int cell = 2; cell <= land; cell++) {
            x.setGround(cell, Coasts.ROCK, false);
        }
        x.setGround(1, 0, true);
        x.setHour(0, sea, 0);
        x.pass(1);
        return x;
    }

    private static void p37OneOfEachNumber() {
        for (int land = 1; land <= 63; land++) {
            Check.isReal("37: one with 1 water of " + land, oneWetOf(land, 4).wetShare(), 1.0f / (float) land);
            Check.isReal("37: none of " + land, oneWetOf(land, 3).wetShare(), 0.0f);
        }
    }

    private static void p37AllButOne() {
        for (int land = 1; land <= 64; land++) {
            Stormcellar x = Coasts.flat(1);
            for (int cell = land; cell < 64; cell++) {
                x.setGround(cell, Coasts.ROCK, true);
            }
            x.addStation(63);
            x.addPump(0, 1, 0);
            x.turn(0, true);
            Check.isReal("37: none of " + land + " at first", x.wetShare(), 0.0f);
            x.pass(1);
            Check.isReal("37: all but one of " + land, x.wetShare(), (float) (land - 1) / (float) land);
            Check.isReal("38: all but one of " + land, x.meanWater(), (double) (land - 1) / (double) land);
        }
        Stormcellar all = Coasts.flat(1);
        all.pass(1);
        Check.isReal("37: all", all.wetShare(), 1.0f);
    }

    private static void p38NoLand() {
        Edge.refuses("38: no land, ahead of the storm", Edge.ARITHMETIC, () -> allSea(0), x -> x.meanWater());
        Edge.refuses("38: no land, in the end", Edge.ARITHMETIC, () -> allSea(48), x -> x.meanWater());
        Stormcellar x = allSea(0);
        x.setGround(63, 0, false);
        Check.isReal("38: a single cell", x.meanWater(), 0.0);
        x.pass(1);
        Check.isReal("38: a single cell, by two seas", x.meanWater(), 9.0);
    }

    private static void p38OfEachNumber() {
        for (int land = 1; land <= 63; land++) {
            Check.isReal("38: 10 on " + land, oneWetOf(land, 40).meanWater(), 10.0 / (double) land);
            Check.isReal("38: none on " + land, oneWetOf(land, 3).meanWater(), 0.0);
        }
    }

    private static void p39FromTheBeginningToTheEnd() {
        Check.isTrue("39: a new object", new Stormcellar().isConsistent());
        Check.isTrue("39: no land", allSea(48).isConsistent());
        for (int hour = 0; hour <= 48; hour++) {
            Stormcellar x = Coasts.wholeAt(hour);
            Check.isTrue("39: in the hour " + hour, x.isConsistent());
            x.cut(1);
            x.open(0, false);
            Check.isTrue("39: with choices of the hour " + hour, x.isConsistent());
        }
        for (int choices = 0; choices <= 16; choices++) {
            Check.isTrue("39: with " + choices + " choices", Coasts.wholeWithChoices(choices).isConsistent());
        }
    }

    private static void askingChangesNothing() {
        for (int hour = 0; hour <= 48; hour += 4) {
            int now = hour;
            Twins.areTheSame("asking for everything", () -> Coasts.wholeAt(now), x -> Coasts.tell(x));
            Twins.areTheSame("39: asking", () -> Coasts.wholeAt(now), x -> x.isConsistent());
            Twins.areTheSame("33: asking", () -> Coasts.wholeAt(now), x -> x.harmWithout(0));
            Twins.areTheSame("34: asking", () -> Coasts.wholeAt(now), InquiryEdgeTest::askWorst);
        }
    }

    private static void askWorst(Stormcellar x) {
        try {
            x.worst();
        } catch (java.util.NoSuchElementException none) {
            return;
        }
    }

    private static void the512thCall() {
        Stormcellar x = behindADike(40, 40);
        x.cut(0);
        int calls = 64 + 64 + 3 + 2 + 5 + 1;
        x.pass(1);
        calls++;
        while (calls < 510) {
            Check.is("33: each time", x.harmWithout(0), 0);
            calls++;
        }
        Check.is("34: the 511th call", x.worst(), 0);
        Check.isTrue("39: the 512th call", x.isConsistent());
    }
}
