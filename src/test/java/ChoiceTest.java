/** Promises 10 to 14, 31 and 32: what is chosen, and that it is written down; a test for each sentence. */
public final class ChoiceTest {
    public static void main(String[] args) {
        p10PumpFrom0();
        p10ReturnsWhetherItWasOn();
        p10OnAndOff();
        p10NotBehind16Choices();
        p11DikeFrom0();
        p11ByFrom1To10();
        p11CrestUpTo120();
        p11NotABrokenOne();
        p11NotBehind16Choices();
        p11WhichExceptionIsFirst();
        p11ItHoldsMore();
        p12DikeFrom0();
        p12ReturnsTheWear();
        p12NotABrokenOne();
        p12NotBehind16Choices();
        p12WhichExceptionIsFirst();
        p12ItHoldsNothing();
        p13ShelterFrom0();
        p13ReturnsWhetherItWasOpen();
        p13WhoIsInItStays();
        p13NotBehind16Choices();
        p14GroupFrom0();
        p14NotWithoutNews();
        p14NotWithAWarningOnItsWay();
        p14NotWithAWarningThatReachedIt();
        p14NotWithNobodyLeft();
        p14AgainIfItDidNotReachIt();
        p14ReturnsTheHour();
        p14NotBehind16Choices();
        p14WhichExceptionIsFirst();
        p31From0To16();
        p31RefusedOnesAreNotWrittenDown();
        p32ChoiceFrom0();
        p32HourFrom0To48();
        choicesThatChangeNothing();
        choicesInTheHour48();
        Check.end();
    }

    /** So many of everything that is chosen about, with news from hour 1 on. */
    private static Stormcellar withEach(int number) {
        Stormcellar x = Coasts.flat(1);
        Coasts.addNews(x);
        for (int i = 0; i < number; i++) {
            x.addPump(i, 1, 0);
            x.addDike(8 + i, true, 9, 9);
            x.addGroup(24 + i, 9, i);
            x.addShelter(40 + i, 9);
        }
        x.pass(1);
        return x;
    }

    private static Stormcellar withDike(int crest, int strength, int... seas) {
        Stormcellar x = Coasts.pit(seas);
        x.addDike(0, false, crest, strength);
        return x;
    }

    private static Stormcellar overflowed() {
        Stormcellar x = withDike(0, 2, 80);
        x.pass(1);
        Check.isChar("19: it overflowed", x.dike(0), 'o');
        return x;
    }

    private static Stormcellar pressed() {
        Stormcellar x = withDike(99, 2, 30, 30);
        x.pass(2);
        Check.isChar("19: it was pressed", x.dike(0), 'p');
        return x;
    }

    private static Stormcellar cutAt(int hour) {
        Stormcellar x = withDike(99, 99, 30, 30);
        if (hour > 0) {
            x.pass(hour);
        }
        x.cut(0);
        return x;
    }

    private static void p10PumpFrom0() {
        Edge.range("10: pump, none yet", Edge.INDEX, 0, -1, Stormcellar::new, (x, pump) -> x.turn(pump, true));
        Edge.range("10: pump of 1", Edge.INDEX, 0, 0, () -> withEach(1), (x, pump) -> x.turn(pump, true));
        Edge.range("10: pump of 4", Edge.INDEX, 0, 3, () -> withEach(4), (x, pump) -> x.turn(pump, false));
    }

    private static void p10ReturnsWhetherItWasOn() {
        Stormcellar x = withEach(2);
        Check.isFalse("10: off at first", x.turn(0, false));
        Check.isFalse("10: off still", x.turn(0, true));
        Check.isTrue("10: on", x.turn(0, true));
        Check.isTrue("10: on still", x.turn(0, false));
        Check.isFalse("10: off again", x.turn(0, true));
        Check.isFalse("10: another one", x.turn(1, true));
    }

    private static void p10OnAndOff() {
        Stormcellar x = Coasts.flat(3, 3, 3);
        x.addStation(63);
        x.addPump(9, 3, 0);
        x.turn(0, true);
        x.pass(1);
        Check.is("10: it pumps in this hour", x.water(9), 0);
        x.turn(0, false);
        x.pass(1);
        Check.is("10: it stands in this hour", x.water(9), 3);
    }

    private static void p10NotBehind16Choices() {
        Check.isTrue("10: the sixteenth", Coasts.wholeWithChoices(15).turn(1, false));
        Edge.refuses("10: the seventeenth", Edge.STATE, () -> Coasts.wholeWithChoices(16), x -> x.turn(0, true));
        Edge.refuses("10: pump and choices", Edge.INDEX, () -> Coasts.wholeWithChoices(16), x -> x.turn(2, true));
    }

    private static void p11DikeFrom0() {
        Edge.range("11: dike, none yet", Edge.INDEX, 0, -1, Stormcellar::new, (x, dike) -> x.raise(dike, 1));
        Edge.range("11: dike of 1", Edge.INDEX, 0, 0, () -> withEach(1), (x, dike) -> x.raise(dike, 1));
        Edge.range("11: dike of 4", Edge.INDEX, 0, 3, () -> withEach(4), (x, dike) -> x.raise(dike, 10));
        Stormcellar x = withEach(2);
        Check.is("11: one dike", x.raise(0, 10), 19);
        Check.is("11: another dike", x.raise(1, 1), 10);
    }

    private static void p11ByFrom1To10() {
        Edge.range("11: by", Edge.ARGUMENT, 1, 10, Coasts::whole, (x, by) -> x.raise(0, by));
        for (int by = 1; by <= 10; by++) {
            Stormcellar x = withDike(0, 9);
            Check.is("11: the crest then", x.raise(0, by), by);
            Check.is("11: the crest by as much again", x.raise(0, by), 2 * by);
        }
    }

    private static Stormcellar withCrest119() {
        Stormcellar x = withDike(99, 9);
        x.raise(0, 10);
        x.raise(0, 10);
        return x;
    }

    private static void p11CrestUpTo120() {
        Check.is("11: to 120", withCrest119().raise(0, 1), 120);
        Edge.refuses("11: to 121", Edge.UNSUPPORTED, ChoiceTest::withCrest119, x -> x.raise(0, 2));
        Edge.refuses("11: to 129", Edge.UNSUPPORTED, ChoiceTest::withCrest119, x -> x.raise(0, 10));
        Stormcellar x = withDike(98, 9);
        x.raise(0, 10);
        x.raise(0, 2);
        Check.is("11: to 120 by 10", x.raise(0, 10), 120);
        Check.noDeed("11: from 120", () -> x.raise(0, 1));
        Check.is("11: the crest may be above 99", withDike(99, 9).raise(0, 1), 100);
    }

    private static void p11NotABrokenOne() {
        Edge.refuses("11: overflowed", Edge.UNSUPPORTED, ChoiceTest::overflowed, x -> x.raise(0, 1));
        Edge.refuses("11: pressed", Edge.UNSUPPORTED, ChoiceTest::pressed, x -> x.raise(0, 1));
        Edge.refuses("11: cut", Edge.UNSUPPORTED, () -> cutAt(0), x -> x.raise(0, 1));
    }

    private static void p11NotBehind16Choices() {
        Check.is("11: the sixteenth", Coasts.wholeWithChoices(15).raise(0, 1), 13);
        Edge.refuses("11: the seventeenth", Edge.STATE, () -> Coasts.wholeWithChoices(16), x -> x.raise(0, 1));
    }

    private static Stormcellar cutAndFull() {
        Stormcellar x = withEach(1);
        x.cut(0);
        return chooseOn(x);
    }

    private static Stormcellar chooseOn(Stormcellar x) {
        while (x.choices() < 16) {
            x.turn(0, true);
        }
        return x;
    }

    private static void p11WhichExceptionIsFirst() {
        Edge.refuses("11: dike and number", Edge.INDEX, Coasts::whole, x -> x.raise(2, 0));
        Edge.refuses("11: dike and choices", Edge.INDEX, () -> Coasts.wholeWithChoices(16), x -> x.raise(-1, 1));
        Edge.refuses("11: number and broken", Edge.ARGUMENT, ChoiceTest::overflowed, x -> x.raise(0, 11));
        Edge.refuses("11: number and 120", Edge.ARGUMENT, ChoiceTest::withCrest119, x -> x.raise(0, 11));
        Edge.refuses("11: number and choices", Edge.ARGUMENT, () -> Coasts.wholeWithChoices(16), x -> x.raise(0, 0));
        Edge.refuses("11: broken and choices", Edge.UNSUPPORTED, ChoiceTest::cutAndFull, x -> x.raise(0, 1));
        Edge.refuses("11: 120 and choices", Edge.UNSUPPORTED, ChoiceTest::highAndFull, x -> x.raise(0, 10));
    }

    /** Sixteen choices, behind which the crest is 119. */
    private static Stormcellar highAndFull() {
        Stormcellar x = withDike(99, 9);
        x.addShelter(9, 9);
        x.raise(0, 10);
        x.raise(0, 10);
        while (x.choices() < 16) {
            x.open(0, true);
        }
        return x;
    }

    private static void p11ItHoldsMore() {
        Stormcellar x = withDike(20, 99, 40, 40);
        x.raise(0, 10);
        x.pass(1);
        Check.is("11: over a crest of 30", x.water(1), 2);
        x.raise(0, 10);
        x.pass(1);
        Check.is("11: not over a crest of 40", x.water(1), 2);
    }

    private static void p12DikeFrom0() {
        Edge.range("12: dike, none yet", Edge.INDEX, 0, -1, Stormcellar::new, (x, dike) -> x.cut(dike));
        Edge.range("12: dike of 1", Edge.INDEX, 0, 0, () -> withEach(1), (x, dike) -> x.cut(dike));
        Edge.range("12: dike of 4", Edge.INDEX, 0, 3, () -> withEach(4), (x, dike) -> x.cut(dike));
        Stormcellar x = withEach(2);
        x.cut(1);
        Check.isChar("12: one dike", x.dike(1), 'c');
        Check.isChar("12: not the other one", x.dike(0), '-');
    }

    private static void p12ReturnsTheWear() {
        Check.is("12: none", withDike(20, 99, 40, 40).cut(0), 0);
        Stormcellar x = withDike(20, 99, 40, 40);
        x.pass(2);
        Check.is("12: twice 5", x.cut(0), 10);
        Check.is("21: its wear stays", x.wear(0), 10);
        Stormcellar y = withDike(20, 99, 40, 40);
        y.pass(1);
        y.raise(0, 10);
        Check.is("12: raising does not mend", y.cut(0), 5);
    }

    private static void p12NotABrokenOne() {
        Edge.refuses("12: overflowed", Edge.UNSUPPORTED, ChoiceTest::overflowed, x -> x.cut(0));
        Edge.refuses("12: pressed", Edge.UNSUPPORTED, ChoiceTest::pressed, x -> x.cut(0));
        Edge.refuses("12: cut in this hour", Edge.UNSUPPORTED, () -> cutAt(0), x -> x.cut(0));
        Edge.refuses("12: cut ahead of this hour", Edge.UNSUPPORTED, ChoiceTest::cutAndOn, x -> x.cut(0));
    }

    private static Stormcellar cutAndOn() {
        Stormcellar x = cutAt(1);
        x.pass(1);
        Check.is("20: by the cut", x.brokenAt(0), 1);
        return x;
    }

    private static void p12NotBehind16Choices() {
        Check.is("12: the sixteenth", Coasts.wholeWithChoices(15).cut(0), 0);
        Edge.refuses("12: the seventeenth", Edge.STATE, () -> Coasts.wholeWithChoices(16), x -> x.cut(0));
    }

    private static void p12WhichExceptionIsFirst() {
        Edge.refuses("12: dike and choices", Edge.INDEX, () -> Coasts.wholeWithChoices(16), x -> x.cut(2));
        Edge.refuses("12: broken and choices", Edge.UNSUPPORTED, ChoiceTest::cutAndFull, x -> x.cut(0));
    }

    private static void p12ItHoldsNothing() {
        Stormcellar x = cutAt(0);
        x.pass(1);
        Check.is("12: a quarter of 30 in this hour", x.water(1), 7);
        Check.is("12: it wears no more", x.wear(0), 0);
    }

    private static void p13ShelterFrom0() {
        Edge.range("13: shelter, none yet", Edge.INDEX, 0, -1, Stormcellar::new, (x, number) -> x.open(number, true));
        Edge.range("13: shelter of 1", Edge.INDEX, 0, 0, () -> withEach(1), (x, number) -> x.open(number, true));
        Edge.range("13: shelter of 4", Edge.INDEX, 0, 3, () -> withEach(4), (x, number) -> x.open(number, false));
    }

    private static void p13ReturnsWhetherItWasOpen() {
        Stormcellar x = withEach(2);
        Check.isFalse("13: closed at first", x.open(0, false));
        Check.isFalse("13: closed still", x.open(0, true));
        Check.isTrue("13: open", x.open(0, true));
        Check.isTrue("13: open still", x.open(0, false));
        Check.isFalse("13: closed again", x.open(0, true));
        Check.isFalse("13: another one", x.open(1, true));
    }

    private static Stormcellar withOneSafe() {
        Stormcellar x = Coasts.flat(1);
        Coasts.addNews(x);
        x.addGroup(9, 7, 0);
        x.addShelter(9, 7);
        x.open(0, true);
        x.pass(1);
        x.warn(0);
        x.pass(1);
        Check.isChar("27: safe", x.state(0), 's');
        return x;
    }

    private static void p13WhoIsInItStays() {
        Stormcellar x = withOneSafe();
        x.open(0, false);
        Check.is("13: they are in it", x.inShelter(0), 7);
        x.pass(1);
        Check.is("13: they stay in it", x.inShelter(0), 7);
        Check.isChar("13: safe", x.state(0), 's');
        x.open(0, true);
        x.pass(1);
        Check.is("13: they are not counted again", x.inShelter(0), 7);
    }

    private static void p13NotBehind16Choices() {
        Check.isFalse("13: the sixteenth", Coasts.wholeWithChoices(15).open(0, true));
        Edge.refuses("13: the seventeenth", Edge.STATE, () -> Coasts.wholeWithChoices(16), x -> x.open(0, true));
        Edge.refuses("13: shelter and choices", Edge.INDEX, () -> Coasts.wholeWithChoices(16), x -> x.open(2, true));
    }

    private static void p14GroupFrom0() {
        Edge.range("14: group, none yet", Edge.INDEX, 0, -1, Stormcellar::new, (x, group) -> x.warn(group));
        Edge.range("14: group of 1", Edge.INDEX, 0, 0, () -> withEach(1), (x, group) -> x.warn(group));
        Edge.range("14: group of 4", Edge.INDEX, 0, 3, () -> withEach(4), (x, group) -> x.warn(group));
        Stormcellar x = withEach(2);
        x.warn(1);
        Check.isChar("14: one group", x.state(1), 'a');
        Check.isChar("14: not the other one", x.state(0), 'h');
    }

    /** A group, and a sensor that notices in hour 0 and has this delay, when these hours have gone by. */
    private static Stormcellar withNewsAfter(int delay, int hours) {
        Stormcellar x = Coasts.flat(1);
        x.addStation(63);
        x.addSensor(63, 1, delay, 0);
        x.addGroup(9, 9, 0);
        if (hours > 0) {
            x.pass(hours);
        }
        return x;
    }

    private static void p14NotWithoutNews() {
        Edge.refuses("14: ahead of the storm", Edge.UNSUPPORTED, () -> withNewsAfter(1, 0), x -> x.warn(0));
        for (int delay = 2; delay <= 9; delay++) {
            int after = delay;
            Edge.refuses("14: an hour ahead of the news", Edge.UNSUPPORTED, () -> withNewsAfter(after, after - 1),
                    x -> x.warn(0));
            Check.is("14: as soon as there is news", withNewsAfter(delay, delay).warn(0), delay);
        }
        Stormcellar none = new Stormcellar();
        none.addGroup(9, 9, 0);
        none.pass(48);
        Check.noDeed("14: news never comes", () -> none.warn(0));
        Check.is("14: news of long ago", withNewsAfter(1, 48).warn(0), 48);
    }

    /** A group that is warned in hour 1, in these many hours more; rain as told from hour 1 on. */
    private static Stormcellar warned(int delay, int hours, int... rains) {
        Stormcellar x = Coasts.flat(1);
        for (int i = 0; i < rains.length; i++) {
            x.setHour(1 + i, 0, rains[i]);
        }
        Coasts.addNews(x);
        x.addGroup(9, 9, delay);
        x.pass(1);
        x.warn(0);
        if (hours > 0) {
            x.pass(hours);
        }
        return x;
    }

    private static void p14NotWithAWarningOnItsWay() {
        Edge.refuses("14: in the same hour, for 0", Edge.UNSUPPORTED, () -> warned(0, 0), x -> x.warn(0));
        Edge.refuses("14: in the same hour, for 5", Edge.UNSUPPORTED, () -> warned(5, 0), x -> x.warn(0));
        Edge.refuses("14: an hour later", Edge.UNSUPPORTED, () -> warned(5, 1), x -> x.warn(0));
        Edge.refuses("14: in the hour of the warning", Edge.UNSUPPORTED, () -> warned(5, 5), x -> x.warn(0));
    }

    private static void p14NotWithAWarningThatReachedIt() {
        Check.isChar("27: on its way", warned(0, 1).state(0), 'o');
        Edge.refuses("14: on its way", Edge.UNSUPPORTED, () -> warned(0, 1), x -> x.warn(0));
        Edge.refuses("14: on its way since long", Edge.UNSUPPORTED, () -> warned(5, 47), x -> x.warn(0));
        Edge.refuses("14: safe", Edge.UNSUPPORTED, ChoiceTest::withOneSafe, x -> x.warn(0));
    }

    private static Stormcellar withNobodyLeft() {
        Stormcellar x = Coasts.flat(1, 9);
        Coasts.addNews(x);
        x.addGroup(9, 1, 0);
        x.pass(2);
        Check.isChar("27: nobody is left", x.state(0), 'l');
        return x;
    }

    private static void p14NotWithNobodyLeft() {
        Edge.refuses("14: nobody was warned", Edge.UNSUPPORTED, ChoiceTest::withNobodyLeft, x -> x.warn(0));
        Check.isChar("27: lost ahead of the warning", warned(5, 3, 9, 9, 9).state(0), 'l');
        Edge.refuses("14: lost ahead of the warning", Edge.UNSUPPORTED, () -> warned(5, 3, 9, 9, 9), x -> x.warn(0));
        Stormcellar one = Coasts.flat(1, 9);
        Coasts.addNews(one);
        one.addGroup(9, 2, 0);
        one.pass(2);
        Check.is("26: one is left", one.people(0), 1);
        Check.is("14: one is left", one.warn(0), 2);
    }

    private static void p14AgainIfItDidNotReachIt() {
        Stormcellar x = warned(0, 1, 4);
        Check.isChar("27: at home with 5 water", x.state(0), 'h');
        Check.is("14: again", x.warn(0), 2);
        x.pass(1);
        Check.is("14: and again", x.warn(0), 3);
        Stormcellar y = warned(0, 1, 3);
        Check.isChar("27: on its way with 4 water", y.state(0), 'o');
        Stormcellar early = warned(1, 1, 4);
        Check.isChar("27: the warning is on its way with 5 water", early.state(0), 'a');
    }

    private static void p14ReturnsTheHour() {
        for (int delay = 0; delay <= 5; delay++) {
            Stormcellar x = Coasts.flat(1);
            Coasts.addNews(x);
            x.addGroup(9, 9, delay);
            x.pass(43);
            Check.is("14: from hour 43 on", x.warn(0), 43 + delay);
            if (delay > 0) {
                x.pass(delay);
            }
            Check.isChar("14: not yet", x.state(0), 'a');
            if (delay < 5) {
                x.pass(1);
                Check.isChar("14: in this hour", x.state(0), 'o');
            }
        }
        Stormcellar last = Coasts.flat(1);
        Coasts.addNews(last);
        last.addGroup(9, 9, 5);
        last.pass(48);
        Check.is("14: an hour that does not come", last.warn(0), 53);
    }

    private static void p14NotBehind16Choices() {
        Check.is("14: the sixteenth", Coasts.wholeWithChoices(15).warn(0), 3);
        Edge.refuses("14: the seventeenth", Edge.STATE, () -> Coasts.wholeWithChoices(16), x -> x.warn(0));
    }

    private static Stormcellar warnedAndFull() {
        Stormcellar x = withEach(1);
        x.warn(0);
        return chooseOn(x);
    }

    private static void p14WhichExceptionIsFirst() {
        Edge.refuses("14: group and news", Edge.INDEX, () -> withNewsAfter(2, 1), x -> x.warn(1));
        Edge.refuses("14: group and choices", Edge.INDEX, () -> Coasts.wholeWithChoices(16), x -> x.warn(2));
        Edge.refuses("14: warned and choices", Edge.UNSUPPORTED, ChoiceTest::warnedAndFull, x -> x.warn(0));
        Edge.refuses("14: news and choices", Edge.UNSUPPORTED, ChoiceTest::fullWithoutNews, x -> x.warn(0));
    }

    private static Stormcellar fullWithoutNews() {
        return chooseOn(Coasts.whole());
    }

    private static void p31From0To16() {
        Check.is("31: none", new Stormcellar().choices(), 0);
        for (int choices = 0; choices <= 16; choices++) {
            Check.is("31: so many", Coasts.wholeWithChoices(choices).choices(), choices);
        }
        Stormcellar x = withEach(1);
        x.turn(0, true);
        x.raise(0, 1);
        x.cut(0);
        x.open(0, true);
        x.warn(0);
        Check.is("31: each kind is counted", x.choices(), 5);
        x.pass(47);
        Check.is("31: they stay", x.choices(), 5);
    }

    private static void p31RefusedOnesAreNotWrittenDown() {
        Stormcellar x = cutAt(0);
        Check.noCell("10: refused", () -> x.turn(0, true));
        Check.noValue("11: refused", () -> x.raise(0, 0));
        Check.noDeed("12: refused", () -> x.cut(0));
        Check.noCell("13: refused", () -> x.open(0, true));
        Check.noCell("14: refused", () -> x.warn(0));
        Check.is("31: refused ones", x.choices(), 1);
    }

    private static void p32ChoiceFrom0() {
        for (int choices = 0; choices <= 16; choices++) {
            int number = choices;
            Edge.range("32: choice of " + number, Edge.INDEX, 0, number - 1, () -> Coasts.wholeWithChoices(number),
                    (x, choice) -> x.choiceHour(choice));
        }
    }

    private static void p32HourFrom0To48() {
        for (int hour = 0; hour <= 48; hour++) {
            Stormcellar x = Coasts.wholeAt(hour);
            x.turn(1, true);
            Check.is("32: the hour of the choice", x.choiceHour(x.choices() - 1), hour);
            Check.is("32: of the first one", x.choiceHour(0), 0);
            if (hour < 48) {
                x.pass(48 - hour);
                Check.is("32: the hour stays", x.choiceHour(x.choices() - 1), hour);
            }
        }
    }

    private static void choicesThatChangeNothing() {
        Stormcellar x = withEach(1);
        x.turn(0, false);
        Check.is("choices: turned off when off", x.choices(), 1);
        x.open(0, false);
        Check.is("choices: closed when closed", x.choices(), 2);
        x.turn(0, true);
        x.turn(0, true);
        Check.is("choices: turned on when on", x.choices(), 4);
        x.open(0, true);
        x.open(0, true);
        Check.is("choices: opened when open", x.choices(), 6);
        Check.is("choices: with its hour", x.choiceHour(3), 1);
    }

    private static Stormcellar inTheEnd() {
        Stormcellar x = withEach(1);
        x.pass(47);
        return x;
    }

    private static void choicesInTheHour48() {
        Stormcellar x = inTheEnd();
        Check.isFalse("10: in the hour 48", x.turn(0, true));
        Check.is("11: in the hour 48", x.raise(0, 1), 10);
        Check.is("12: in the hour 48", x.cut(0), 0);
        Check.isFalse("13: in the hour 48", x.open(0, true));
        Check.is("14: in the hour 48", x.warn(0), 48);
        Check.is("31: in the hour 48", x.choices(), 5);
        Check.isTrue("10: done", x.turn(0, true));
        Check.isChar("12: done", x.dike(0), 'c');
        Check.is("20: done", x.brokenAt(0), 48);
        Check.isTrue("13: done", x.open(0, true));
        Check.isChar("14: done", x.state(0), 'a');
        for (int choice = 0; choice < 7; choice++) {
            Check.is("32: in the hour 48", x.choiceHour(choice), 48);
            Check.is("33: in the hour 48", x.harmWithout(choice), 0);
        }
        Check.isTrue("39: in the hour 48", x.isConsistent());
        Check.noDeed("12: twice in the hour 48", () -> x.cut(0));
    }
}
