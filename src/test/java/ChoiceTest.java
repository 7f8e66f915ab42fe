/** Promises 10 to 14, and 31 and 32: what is chosen, and that it is written down. */
public final class ChoiceTest {
    public static void main(String[] args) {
        turn();
        raise();
        cut();
        open();
        warn();
        sixteenChoices();
        lateChoices();
        refusedChoicesChangeNothing();
        Check.end();
    }

    private static void turn() {
        Stormcellar x = Coasts.flat(3, 3);
        x.addStation(63);
        x.addPump(9, 3, 0);
        Check.isFalse("10: it was off", x.turn(0, true));
        Check.isTrue("10: it was on", x.turn(0, true));
        Check.is("31: also one that changes nothing", x.choices(), 2);
        x.pass(1);
        Check.is("10: it pumps", x.water(9), 0);
        Check.isTrue("10: off", x.turn(0, false));
        Check.isFalse("10: off again", x.turn(0, false));
        x.pass(1);
        Check.is("10: it stands", x.water(9), 3);
        Check.is("31: four", x.choices(), 4);
        Check.is("32: hour 0", x.choiceHour(1), 0);
        Check.is("32: hour 1", x.choiceHour(2), 1);
        Check.noCell("10: pump -1", () -> x.turn(-1, true));
        Check.noCell("10: pump 1", () -> x.turn(1, true));
        Check.noCell("32: choice -1", () -> x.choiceHour(-1));
        Check.noCell("32: choice 4", () -> x.choiceHour(4));
        Check.is("31: refused ones are not written down", x.choices(), 4);
    }

    private static void raise() {
        Stormcellar x = Coasts.pit(40);
        x.addDike(0, false, 20, 99);
        Check.is("11: the crest then", x.raise(0, 10), 30);
        x.pass(1);
        Check.is("11: it holds more", x.water(1), 2);

        Stormcellar y = new Stormcellar();
        y.addDike(0, false, 99, 2);
        y.addDike(1, false, 3, 2);
        Check.is("11: by 10", y.raise(0, 10), 109);
        Check.is("11: by 10 again", y.raise(0, 10), 119);
        Check.noDeed("11: above 120", () -> y.raise(0, 2));
        Check.is("11: to 120", y.raise(0, 1), 120);
        Check.noDeed("11: above 120 by 1", () -> y.raise(0, 1));
        Check.is("11: another one", y.raise(1, 1), 4);
        Check.noCell("11: dike -1", () -> y.raise(-1, 0));
        Check.noCell("11: dike 2", () -> y.raise(2, 1));
        Check.noValue("11: by 0", () -> y.raise(0, 0));
        Check.noValue("11: by 11", () -> y.raise(0, 11));
        Check.noValue("11: by -1", () -> y.raise(0, -1));
        y.cut(1);
        Check.noDeed("11: a broken one", () -> y.raise(1, 1));
        Check.noValue("11: the number comes first", () -> y.raise(1, 0));
        Check.is("31: five", y.choices(), 5);
    }

    private static void cut() {
        Stormcellar x = Coasts.pit(40, 40, 40);
        x.addDike(0, false, 20, 99);
        x.pass(2);
        Check.is("12: the wear that it had", x.cut(0), 10);
        Check.isChar("19: cut", x.dike(0), 'c');
        Check.is("20: in this hour", x.brokenAt(0), 2);
        Check.is("21: its wear stays", x.wear(0), 10);
        Check.noDeed("12: broken", () -> x.cut(0));
        x.pass(1);
        Check.is("12: it holds nothing", x.water(1), 17);
        Check.is("21: no wear of a cut one", x.wear(0), 10);
        Check.noCell("12: dike -1", () -> x.cut(-1));
        Check.noCell("12: dike 1", () -> x.cut(1));
        Check.is("31: one", x.choices(), 1);

        Stormcellar y = Coasts.pit(80);
        y.addDike(0, false, 0, 2);
        y.pass(1);
        Check.isChar("19: it broke by itself", y.dike(0), 'o');
        Check.noDeed("12: it is broken already", () -> y.cut(0));
        Check.noDeed("11: it is broken already", () -> y.raise(0, 1));
    }

    private static void open() {
        Stormcellar x = new Stormcellar();
        x.addShelter(9, 5);
        Check.isFalse("13: it was closed", x.open(0, true));
        Check.isTrue("13: it was open", x.open(0, true));
        Check.isTrue("13: it was open still", x.open(0, false));
        Check.isFalse("13: it was closed then", x.open(0, false));
        Check.noCell("13: shelter -1", () -> x.open(-1, true));
        Check.noCell("13: shelter 1", () -> x.open(1, true));
        Check.is("31: four", x.choices(), 4);
    }

    private static void warn() {
        Stormcellar x = Coasts.flat(1);
        Coasts.addNews(x);
        x.addGroup(9, 10, 3);
        x.addGroup(9, 10, 0);
        x.addGroup(9, 10, 5);
        Check.noDeed("14: no news", () -> x.warn(0));
        Check.noCell("14: group -1", () -> x.warn(-1));
        Check.noCell("14: group 3", () -> x.warn(3));
        x.pass(2);
        Check.is("14: later by its delay", x.warn(0), 5);
        Check.isChar("27: on its way to it", x.state(0), 'a');
        Check.noDeed("14: a warning is on its way", () -> x.warn(0));
        Check.is("14: at once", x.warn(1), 2);
        Check.isChar("27: on its way to it in this hour", x.state(1), 'a');
        x.pass(1);
        Check.isChar("27: reached", x.state(1), 'o');
        Check.noDeed("14: it has reached it", () -> x.warn(1));
        x.pass(2);
        Check.isChar("27: not before hour 5", x.state(0), 'a');
        x.pass(1);
        Check.isChar("27: in hour 5", x.state(0), 'o');
        x.pass(42);
        Check.is("14: in the hour 48", x.warn(2), 53);
        Check.isChar("27: it will not come", x.state(2), 'a');
        Check.is("31: three", x.choices(), 3);
        Check.is("32: hour 48", x.choiceHour(2), 48);
        wetWarning();
        warnedInTheEnd();
    }

    private static void wetWarning() {
        for (int rain = 4; rain <= 5; rain++) {
            Stormcellar x = Coasts.flat(1, 0, rain - 1);
            Coasts.addNews(x);
            x.addGroup(9, 10, 1);
            x.pass(1);
            x.warn(0);
            x.pass(1);
            Check.isChar("27: before", x.state(0), 'a');
            x.pass(1);
            Check.isChar("14: with " + rain + " water", x.state(0), rain == 4 ? 'o' : 'h');
            if (rain == 5) {
                Check.is("14: again", x.warn(0), 4);
            } else {
                Check.noDeed("14: not again", () -> x.warn(0));
            }
        }
    }

    private static void warnedInTheEnd() {
        Stormcellar x = Coasts.flat(1, 9, 9, 9);
        Coasts.addNews(x);
        x.addGroup(9, 1, 0);
        x.pass(2);
        Check.is("14: still there at 10 water", x.people(0), 0);
        Check.noDeed("14: nobody is left", () -> x.warn(0));
        Stormcellar safe = Coasts.flat(1);
        Coasts.addNews(safe);
        safe.addGroup(9, 1, 0);
        safe.addShelter(9, 1);
        safe.open(0, true);
        safe.pass(1);
        safe.warn(0);
        safe.pass(1);
        Check.isChar("27: safe at once on the shelter's cell", safe.state(0), 's');
        Check.noDeed("14: safe", () -> safe.warn(0));
    }

    private static void sixteenChoices() {
        Stormcellar x = Coasts.flat(1);
        Coasts.addNews(x);
        x.addPump(20, 1, 0);
        x.addDike(0, false, 9, 9);
        x.addDike(1, false, 9, 9);
        x.addShelter(9, 9);
        x.addGroup(10, 9, 0);
        x.addGroup(10, 9, 0);
        x.pass(1);
        x.cut(1);
        x.warn(1);
        for (int i = 2; i < 16; i++) {
            Check.is("31: so many", x.choices(), i);
            x.turn(0, i % 2 == 0);
        }
        Check.is("31: sixteen", x.choices(), 16);
        Check.noTime("10: the seventeenth", () -> x.turn(0, true));
        Check.noTime("11: the seventeenth", () -> x.raise(0, 1));
        Check.noTime("12: the seventeenth", () -> x.cut(0));
        Check.noTime("13: the seventeenth", () -> x.open(0, true));
        Check.noTime("14: the seventeenth", () -> x.warn(0));
        Check.noCell("10: the number comes first", () -> x.turn(1, true));
        Check.noCell("13: the number comes first", () -> x.open(1, true));
        Check.noValue("11: the range comes first", () -> x.raise(0, 11));
        Check.noDeed("11: the broken dike comes first", () -> x.raise(1, 1));
        Check.noDeed("12: the broken dike comes first", () -> x.cut(1));
        Check.noDeed("14: the warned group comes first", () -> x.warn(1));
        Check.is("31: sixteen still", x.choices(), 16);
        Check.isChar("12: not cut", x.dike(0), '-');
        Check.isChar("14: not warned", x.state(0), 'h');
        Check.isTrue("39: with sixteen", x.isConsistent());
        Check.is("15: hours go on", x.pass(47), 48);
    }

    private static void lateChoices() {
        Stormcellar x = Coasts.flat(1);
        Coasts.addNews(x);
        x.addPump(20, 1, 0);
        x.addDike(0, false, 9, 9);
        x.addDike(1, false, 9, 9);
        x.addShelter(9, 9);
        x.pass(48);
        Check.isFalse("10: in the hour 48", x.turn(0, true));
        Check.is("11: in the hour 48", x.raise(0, 1), 10);
        Check.is("12: in the hour 48", x.cut(0), 0);
        Check.is("20: in the hour 48", x.brokenAt(0), 48);
        Check.isFalse("13: in the hour 48", x.open(0, true));
        Check.is("31: they are written down", x.choices(), 4);
        Check.is("32: with their hour", x.choiceHour(3), 48);
        Check.isTrue("39: in the hour 48", x.isConsistent());
        Check.is("33: in the hour 48", x.harmWithout(0), 0);
    }

    private static void refusedChoicesChangeNothing() {
        Stormcellar x = chosen();
        Stormcellar y = chosen();
        Check.noCell("10: refused", () -> x.turn(1, false));
        Check.noValue("11: refused", () -> x.raise(0, 11));
        Check.noDeed("11: refused, broken", () -> x.raise(1, 10));
        Check.noDeed("12: refused, broken", () -> x.cut(1));
        Check.noCell("13: refused", () -> x.open(1, false));
        Check.noDeed("14: refused, warned", () -> x.warn(0));
        Check.noTime("15: refused", () -> x.pass(48));
        Check.isText("refused choices change nothing",
                Coasts.tell(x, 2, 1, 1, 2, 1), Coasts.tell(y, 2, 1, 1, 2, 1));
        x.pass(6);
        y.pass(6);
        Check.isText("refused choices change nothing later",
                Coasts.tell(x, 2, 1, 1, 2, 1), Coasts.tell(y, 2, 1, 1, 2, 1));
    }

    private static Stormcellar chosen() {
        Stormcellar x = Coasts.flat(1, 0, 2, 9, 9);
        x.setGround(0, 0, true);
        x.setHour(2, 40, 2);
        Coasts.addNews(x);
        x.addPump(20, 1, 0);
        x.addDike(0, false, 9, 9);
        x.addDike(1, false, 9, 9);
        x.addShelter(14, 30);
        x.addGroup(10, 9, 2);
        x.addGroup(11, 9, 1);
        x.turn(0, true);
        x.cut(1);
        x.open(0, true);
        x.pass(1);
        x.warn(0);
        return x;
    }
}
